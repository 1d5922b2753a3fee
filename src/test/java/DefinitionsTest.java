/** All that can be asked of one function, for each function of one to three letters and many of four. */
public final class DefinitionsTest {
    /** The step through the tables of four letters; it shares no factor with their number. */
    private static final int STEP = 97;

    private final Check check = new Check();

    public static void main(String[] args) {
        int step = args.length > 0 ? Integer.parseInt(args[0]) : STEP;
        DefinitionsTest test = new DefinitionsTest();
        for (int letters = 1; letters <= 4; letters++) {
            int tables = 1 << (1 << letters);
            for (int table = 0; table < tables; table += letters == 4 ? step : 1) {
                test.compare(letters, table);
            }
        }
        for (int table : new int[] {0x8000, 0x6996, 0x7FFF, 0xFFFF, 0xE8E8, 0x0660, 0xF888, 0xE880, 0x7888, 0x6666, 0xCA35, 0x1BD6, 0x0880}) {
            test.compare(4, table);
        }
        test.check.end();
    }

    /** Each half asks objects of its own: one answers for 512 calls only. */
    private void compare(int letters, int table) {
        String of = " of " + letters + " letters, table " + table;
        YesNoLab lab = new YesNoLab();
        PlainLab plain = new PlainLab();
        lab.table(letters, table);
        plain.table(letters, table);
        for (int number = 0; number < (1 << letters); number++) {
            byNumber(lab, plain, number, of + ", number " + number);
        }
        lab = new YesNoLab();
        plain = new PlainLab();
        lab.table(letters, table);
        plain.table(letters, table);
        whole(lab, plain, of);
        for (int letter = 0; letter <= letters; letter++) {
            byLetter(lab, plain, letter, of + ", letter " + letter);
        }
        added(lab, plain, letters, of);
    }

    private void whole(YesNoLab lab, PlainLab plain, String of) {
        check.same("letters" + of, () -> plain.letters(0), () -> lab.letters(0));
        check.same("bits" + of, () -> plain.bits(0), () -> lab.bits(0));
        check.same("degree over signs" + of, () -> plain.degree(0, false), () -> lab.degree(0, false));
        check.same("degree over two" + of, () -> plain.degree(0, true), () -> lab.degree(0, true));
        for (int b = 1; b <= 9; b += 4) {
            for (int a = 0; a <= b; a += 2) {
                int low = a;
                int high = b;
                check.same("stability" + of, () -> plain.stability(0, low, high), () -> lab.stability(0, low, high));
            }
        }
        check.same("isBent" + of, () -> plain.isBent(0), () -> lab.isBent(0));
        check.same("depth" + of, () -> plain.depth(0), () -> lab.depth(0));
        check.same("width" + of, () -> plain.width(0), () -> lab.width(0));
        check.same("question" + of, () -> plain.question(0), () -> lab.question(0));
        for (char what : "sbc".toCharArray()) {
            check.same("measure " + what + of, () -> plain.measure(0, what), () -> lab.measure(0, what));
        }
        check.same("formula" + of, () -> plain.formula(0, false), () -> lab.formula(0, false));
        check.same("monotone formula" + of, () -> plain.formula(0, true), () -> lab.formula(0, true));
        check.same("isReadOnce" + of, () -> plain.isReadOnce(0), () -> lab.isReadOnce(0));
        check.same("gates" + of, () -> plain.gates(0), () -> lab.gates(0));
        check.same("isThreshold" + of, () -> plain.isThreshold(0), () -> lab.isThreshold(0));
        for (char kind : "lmdj".toCharArray()) {
            check.same("far " + kind + of, () -> plain.far(0, kind), () -> lab.far(0, kind));
        }
        check.same("passes" + of, () -> plain.passes(0), () -> lab.passes(0));
        check.same("isMonotone" + of, () -> plain.isMonotone(0), () -> lab.isMonotone(0));
        check.same("likeness" + of, () -> plain.likeness(0), () -> lab.likeness(0));
        check.same("isList" + of, () -> plain.isList(0), () -> lab.isList(0));
        check.same("meanInfluence" + of, () -> plain.meanInfluence(0), () -> lab.meanInfluence(0));
        check.same("meanBits" + of, () -> plain.meanBits(0), () -> lab.meanBits(0));
        check.same("yesShare" + of, () -> plain.yesShare(), () -> lab.yesShare());
        check.same("checksum" + of, () -> plain.checksum(), () -> lab.checksum());
        check.due("isSound" + of, true, () -> lab.isSound());
    }

    /** A number that stands for an input, or for a set of letters. */
    private void byNumber(YesNoLab lab, PlainLab plain, int number, String of) {
        check.same("says" + of, () -> plain.says(0, number), () -> lab.says(0, number));
        check.same("wave" + of, () -> plain.wave(0, number), () -> lab.wave(0, number));
        check.same("isIn" + of, () -> plain.isIn(0, number), () -> lab.isIn(0, number));
        for (char what : "sbc".toCharArray()) {
            check.same("measureAt " + what + of, () -> plain.measureAt(0, number, what), () -> lab.measureAt(0, number, what));
        }
        check.same("certificate" + of, () -> plain.certificate(0, number), () -> lab.certificate(0, number));
        check.same("rank over two" + of, () -> plain.rank(0, number, true), () -> lab.rank(0, number, true));
        check.same("rank over three" + of, () -> plain.rank(0, number, false), () -> lab.rank(0, number, false));
        check.same("fooling" + of, () -> plain.fooling(0, number), () -> lab.fooling(0, number));
        check.same("talk" + of, () -> plain.talk(0, number), () -> lab.talk(0, number));
        check.same("least" + of, () -> plain.least(0, number), () -> lab.least(0, number));
        check.same("hide" + of, () -> plain.hide(0, number), () -> lab.hide(0, number));
        check.same("isSettled" + of, () -> plain.isSettled(), () -> lab.isSettled());
        for (int letter = 0; letter < 4; letter++) {
            int asked = (letter * 3 + number) % 4;
            check.same("ask" + of, () -> plain.ask(asked), () -> lab.ask(asked));
            check.same("asked" + of, () -> plain.asked(), () -> lab.asked());
            check.same("isSettled" + of, () -> plain.isSettled(), () -> lab.isSettled());
        }
    }

    private void byLetter(YesNoLab lab, PlainLab plain, int letter, String of) {
        check.same("matters" + of, () -> plain.matters(0, letter), () -> lab.matters(0, letter));
        check.same("influence" + of, () -> plain.influence(0, letter), () -> lab.influence(0, letter));
        check.same("weight" + of, () -> plain.weight(0, letter), () -> lab.weight(0, letter));
        check.same("swings" + of, () -> plain.swings(0, letter), () -> lab.swings(0, letter));
        check.same("power" + of, () -> plain.power(0, letter), () -> lab.power(0, letter));
        check.same("restricted" + of, () -> plain.restricted(0, letter), () -> lab.restricted(0, letter));
    }

    private void added(YesNoLab lab, PlainLab plain, int letters, String of) {
        for (char how : "ndi".toCharArray()) {
            check.same("turn " + how + of, () -> plain.turn(0, how), () -> lab.turn(0, how));
        }
        for (int letter = 0; letter <= letters; letter++) {
            int fixed = letter;
            check.same("fix no" + of, () -> plain.fix(0, fixed, false), () -> lab.fix(0, fixed, false));
            check.same("fix yes" + of, () -> plain.fix(0, fixed, true), () -> lab.fix(0, fixed, true));
        }
        check.same("checksum of turned and fixed" + of, () -> plain.checksum(), () -> lab.checksum());
        for (int other = 0; other < plain.functions(); other++) {
            int each = other;
            check.same("areLike " + other + of, () -> plain.areLike(0, each), () -> lab.areLike(0, each));
            check.same("distance " + other + of, () -> plain.distance(0, each), () -> lab.distance(0, each));
        }
        check.same("compose" + of, () -> plain.compose(0, 4), () -> lab.compose(0, 4));
        check.same("compose" + of, () -> plain.compose(4, 0), () -> lab.compose(4, 0));
        check.same("compose" + of, () -> plain.compose(0, 0), () -> lab.compose(0, 0));
        for (char by : "aox".toCharArray()) {
            check.same("join " + by + of, () -> plain.join(0, 3, by), () -> lab.join(0, 3, by));
        }
        check.same("checksum of joint and composed" + of, () -> plain.checksum(), () -> lab.checksum());
        check.same("yesShare of all" + of, () -> plain.yesShare(), () -> lab.yesShare());
        check.due("isSound of all" + of, true, () -> lab.isSound());
    }
}
