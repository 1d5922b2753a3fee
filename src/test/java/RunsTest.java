/** Long runs of calls, right and wrong ones by a fixed sequence of numbers, against the slow laboratory. */
public final class RunsTest {
    private static final int RUNS = 240;
    /** An object answers for 512 calls only. */
    private static final int MOST_CALLS = 510;
    private static final int[] EXTREMES = {Integer.MIN_VALUE, Integer.MAX_VALUE, -1, 31, 32, 33, 65536, 1 << 24, 1 << 30};
    private static final String KINDS = "aoxndislbcmdjz";

    private final Check check = new Check();
    private long number;
    private int made;
    private YesNoLab lab;
    private PlainLab plain;
    /** The letters that this run's tables mostly have, so that many functions fit to one another. */
    private int mostLetters;

    public static void main(String[] args) {
        RunsTest test = new RunsTest();
        for (int run = 0; run < RUNS; run++) {
            test.run(run);
        }
        test.check.end();
    }

    private int below(int bound) {
        number = number * 6364136223846793005L + 1442695040888963407L;
        return (int) ((number >>> 33) % bound);
    }

    private void run(int run) {
        number = 1000003L * run + 17;
        lab = new YesNoLab();
        plain = new PlainLab();
        mostLetters = 1 + below(4);
        made = 0;
        for (int call = 0; made < MOST_CALLS; call++) {
            made++;
            // A run begins with functions, so that there is something to ask.
            int which = call < 12 || below(12) == 0 ? below(8) : 8 + below(48);
            if (call < 400 && which < 8 && below(20) != 0 && plain.functions() > call / 20 + 8) {
                which = 8 + below(48);
            }
            String what = "run " + run + ", call " + call + " of method " + which;
            if (which < 8) {
                add(which, what);
            } else if (which < 24) {
                askWaves(which, what);
            } else if (which < 40) {
                askSizes(which, what);
            } else {
                askKinds(which, what);
            }
        }
        check.same("checksum of run " + run, () -> plain.checksum(), () -> lab.checksum());
    }

    private int extremeOr(int usual) {
        return below(40) == 0 ? EXTREMES[below(EXTREMES.length)] : usual;
    }

    private int function() {
        return extremeOr(below(25) == 0 ? plain.functions() : below(Math.max(1, plain.functions())));
    }

    private int letter() {
        return extremeOr(below(mostLetters + (below(6) == 0 ? 2 : 0)));
    }

    private int input() {
        return extremeOr(below((1 << mostLetters) + (below(12) == 0 ? 2 : 0)));
    }

    private int functionSet() {
        int set = 0;
        for (int each = 0; each < plain.functions(); each++) {
            if (plain.letters(each) == mostLetters && below(6) != 0) {
                set |= 1 << each;
            }
        }
        if (below(10) == 0) {
            set |= 1 << below(25);
        }
        return extremeOr(set);
    }

    private char kind(String kinds) {
        return below(15) == 0 ? KINDS.charAt(below(KINDS.length())) : kinds.charAt(below(kinds.length()));
    }

    private void add(int which, String what) {
        int one = function();
        int other = function();
        int letters = extremeOr(below(5) == 0 ? below(6) : mostLetters);
        int table = extremeOr(below(1 << (1 << mostLetters)));
        int small = extremeOr(below(21) - 10);
        boolean isYes = below(2) == 0;
        switch (which) {
            case 0: check.same(what, () -> plain.table(letters, table), () -> lab.table(letters, table)); break;
            case 1: check.same(what, () -> plain.weigh(small), () -> lab.weigh(small)); break;
            case 2: check.same(what, () -> plain.threshold(small), () -> lab.threshold(small)); break;
            case 3: char by = kind("aox"); check.same(what, () -> plain.join(one, other, by), () -> lab.join(one, other, by)); break;
            case 4: char how = kind("ndi"); check.same(what, () -> plain.turn(one, how), () -> lab.turn(one, how)); break;
            case 5: int letter = letter(); check.same(what, () -> plain.fix(one, letter, isYes), () -> lab.fix(one, letter, isYes)); break;
            case 6: check.same(what, () -> plain.compose(one, other), () -> lab.compose(one, other)); break;
            default: check.same(what, () -> plain.weigh(small / 3), () -> lab.weigh(small / 3)); break;
        }
    }

    private void askWaves(int which, String what) {
        int one = function();
        int letter = letter();
        int input = input();
        int a = extremeOr(below(10));
        int b = extremeOr(below(11));
        boolean isSo = below(2) == 0;
        switch (which) {
            case 8: check.same(what, () -> plain.letters(one), () -> lab.letters(one)); break;
            case 9: check.same(what, () -> plain.bits(one), () -> lab.bits(one)); break;
            case 10: check.same(what, () -> plain.says(one, input), () -> lab.says(one, input)); break;
            case 11: check.same(what, () -> plain.matters(one, letter), () -> lab.matters(one, letter)); break;
            case 12: check.same(what, () -> plain.wave(one, input), () -> lab.wave(one, input)); break;
            case 13: check.same(what, () -> plain.isIn(one, input), () -> lab.isIn(one, input)); break;
            case 14: check.same(what, () -> plain.degree(one, isSo), () -> lab.degree(one, isSo)); break;
            case 15: check.same(what, () -> plain.influence(one, letter), () -> lab.influence(one, letter)); break;
            case 16: check.same(what, () -> plain.stability(one, a, b), () -> lab.stability(one, a, b)); break;
            case 17: check.same(what, () -> plain.isBent(one), () -> lab.isBent(one)); break;
            case 18: check.same(what, () -> plain.depth(one), () -> lab.depth(one)); break;
            case 19: check.same(what, () -> plain.width(one), () -> lab.width(one)); break;
            case 20: check.same(what, () -> plain.question(one), () -> lab.question(one)); break;
            case 21: check.same(what, () -> plain.hide(one, input), () -> lab.hide(one, input)); break;
            case 22: check.same(what, () -> plain.ask(letter), () -> lab.ask(letter)); break;
            default: check.same(what, () -> plain.isSettled(), () -> lab.isSettled()); break;
        }
        made++;
        check.same(what, () -> plain.asked(), () -> lab.asked());
    }

    private void askSizes(int which, String what) {
        int one = function();
        int other = function();
        int letter = letter();
        int input = input();
        char measure = kind("sbc");
        char kind = kind("lmdj");
        boolean isSo = below(2) == 0;
        switch (which) {
            case 24: check.same(what, () -> plain.measure(one, measure), () -> lab.measure(one, measure)); break;
            case 25: check.same(what, () -> plain.measureAt(one, input, measure), () -> lab.measureAt(one, input, measure)); break;
            case 26: check.same(what, () -> plain.certificate(one, input), () -> lab.certificate(one, input)); break;
            case 27: check.same(what, () -> plain.formula(one, isSo), () -> lab.formula(one, isSo)); break;
            case 28: check.same(what, () -> plain.isReadOnce(one), () -> lab.isReadOnce(one)); break;
            case 29: check.same(what, () -> plain.gates(one), () -> lab.gates(one)); break;
            case 30: check.same(what, () -> plain.rank(one, input, isSo), () -> lab.rank(one, input, isSo)); break;
            case 31: check.same(what, () -> plain.fooling(one, input), () -> lab.fooling(one, input)); break;
            case 32: check.same(what, () -> plain.talk(one, input), () -> lab.talk(one, input)); break;
            case 33: check.same(what, () -> plain.isThreshold(one), () -> lab.isThreshold(one)); break;
            case 34: int index = extremeOr(below(6)); check.same(what, () -> plain.weight(one, index), () -> lab.weight(one, index)); break;
            case 35: check.same(what, () -> plain.distance(one, other), () -> lab.distance(one, other)); break;
            case 36: check.same(what, () -> plain.far(one, kind), () -> lab.far(one, kind)); break;
            case 37: check.same(what, () -> plain.passes(one), () -> lab.passes(one)); break;
            case 38: int set = functionSet(); check.same(what, () -> plain.dimension(set), () -> lab.dimension(set)); break;
            default: check.same(what, () -> plain.matters(one, letter), () -> lab.matters(one, letter)); break;
        }
    }

    private void askKinds(int which, String what) {
        int one = function();
        int other = function();
        int letter = letter();
        int small = extremeOr(below(6) - 1);
        switch (which) {
            case 40: {
                int set = functionSet();
                int inputs = extremeOr(below(1 << (1 << mostLetters)) & below(1 << 16));
                check.same(what, () -> plain.left(set, one, inputs), () -> lab.left(set, one, inputs));
                break;
            }
            case 41: check.same(what, () -> plain.isMonotone(one), () -> lab.isMonotone(one)); break;
            case 42: check.same(what, () -> plain.least(one, small), () -> lab.least(one, small)); break;
            case 43: check.same(what, () -> plain.monotones(small), () -> lab.monotones(small)); break;
            case 44: check.same(what, () -> plain.swings(one, letter), () -> lab.swings(one, letter)); break;
            case 45: check.same(what, () -> plain.power(one, letter), () -> lab.power(one, letter)); break;
            case 46: check.same(what, () -> plain.likeness(one), () -> lab.likeness(one)); break;
            case 47: check.same(what, () -> plain.areLike(one, other), () -> lab.areLike(one, other)); break;
            case 48: check.same(what, () -> plain.restricted(one, small), () -> lab.restricted(one, small)); break;
            case 49: check.same(what, () -> plain.isList(one), () -> lab.isList(one)); break;
            case 50: check.same(what, () -> plain.functions(), () -> lab.functions()); break;
            case 51: check.same(what, () -> plain.meanInfluence(one), () -> lab.meanInfluence(one)); break;
            case 52: check.same(what, () -> plain.meanBits(one), () -> lab.meanBits(one)); break;
            case 53: check.same(what, () -> plain.yesShare(), () -> lab.yesShare()); break;
            case 54: check.same(what, () -> plain.checksum(), () -> lab.checksum()); break;
            default: check.due(what, true, () -> lab.isSound()); break;
        }
    }
}
