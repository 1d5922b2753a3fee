import java.util.HashSet;
import java.util.Set;

/** What is known of such functions elsewhere, over all of one to four letters; nothing here works an answer out. */
public final class FactsTest {
    /** How many functions of 1, 2, 3 and 4 letters there are of a kind. */
    private static final int[] THRESHOLDS = {4, 14, 104, 1882};
    private static final int[] LIKE_KINDS = {2, 4, 14, 222};
    private static final int[] BENT = {0, 8, 0, 896};
    private static final int[] MONOTONES = {3, 6, 20, 168};
    private static final int[] LISTS = {4, 14, 96, 1050};
    private static final int[] READ_ONCE = {4, 14, 96};
    /** By the number of gates, of three letters. */
    private static final int[] GATES = {8, 30, 114};
    private static final int[] ORDERS = {1, 1, 2, 6, 24};

    private final Check check = new Check();
    private YesNoLab lab = new YesNoLab();
    private String of = "";
    private int letters;
    private int inputs;
    private int thresholds;
    private int bent;
    private int monotones;
    private int lists;
    private int readOnce;
    private final int[] byGates = new int[GATES.length];
    private final Set<Integer> likeKinds = new HashSet<>();

    public static void main(String[] args) {
        FactsTest test = new FactsTest();
        for (int letters = 1; letters <= 4; letters++) {
            test.allOf(letters);
        }
        test.check.end();
    }

    private void allOf(int newLetters) {
        letters = newLetters;
        inputs = 1 << letters;
        thresholds = 0;
        bent = 0;
        monotones = 0;
        lists = 0;
        readOnce = 0;
        likeKinds.clear();
        byGates[0] = 0;
        byGates[1] = 0;
        byGates[2] = 0;
        for (int table = 0; table < (1 << inputs); table++) {
            lab = new YesNoLab();
            lab.table(letters, table);
            of = " of " + letters + " letters, table " + table;
            count();
            waves(table);
            sizes();
            kinds();
            if (letters > 1) {
                talks();
            }
            if (letters < 4) {
                formulas();
            }
        }
        counted();
    }

    private void count() {
        thresholds += lab.isThreshold(0) ? 1 : 0;
        bent += lab.isBent(0) ? 1 : 0;
        monotones += lab.isMonotone(0) ? 1 : 0;
        lists += lab.isList(0) ? 1 : 0;
        readOnce += letters < 4 && lab.isReadOnce(0) ? 1 : 0;
        likeKinds.add(lab.likeness(0));
        int gates = letters == 3 ? gates() : GATES.length;
        if (gates < GATES.length) {
            byGates[gates]++;
        }
    }

    private int gates() {
        Object gates = Check.outcome(() -> lab.gates(0));
        return gates instanceof Integer ? (Integer) gates : 4;
    }

    private void counted() {
        int index = letters - 1;
        String all = " of " + letters + " letters";
        check.due("thresholds" + all, THRESHOLDS[index], () -> thresholds);
        check.due("kinds of like functions" + all, LIKE_KINDS[index], () -> likeKinds.size());
        check.due("bent functions" + all, BENT[index], () -> bent);
        check.due("monotone functions" + all, MONOTONES[index], () -> monotones);
        check.due("monotones" + all, MONOTONES[index], () -> lab.monotones(letters));
        check.due("lists" + all, LISTS[index], () -> lists);
        if (letters < 4) {
            check.due("read-once functions" + all, READ_ONCE[index], () -> readOnce);
        }
        for (int gates = 0; letters == 3 && gates < GATES.length; gates++) {
            int each = gates;
            check.due("functions with " + gates + " gates" + all, GATES[gates], () -> byGates[each]);
        }
    }

    /** What the waves tell of other answers. */
    private void waves(int table) {
        int sum = 0;
        int cubes = 0;
        int highest = 0;
        int[] bySet = new int[letters];
        for (int set = 0; set < inputs; set++) {
            int wave = lab.wave(0, set);
            sum += wave;
            cubes += wave * wave * wave;
            highest = Math.max(highest, Math.abs(wave));
            for (int letter = 0; letter < letters; letter++) {
                bySet[letter] += (set >> letter & 1) * wave * wave;
            }
        }
        int waveSum = sum;
        int waveCubes = cubes;
        int most = highest;
        check.due("sum of waves" + of, lab.says(0, 0) ? -inputs : inputs, () -> waveSum);
        check.due("far from sums" + of, (inputs - most) / 2, () -> lab.far(0, 'l'));
        check.due("passes" + of, (inputs * inputs + waveCubes / inputs) / 2, () -> lab.passes(0));
        check.due("stability without noise" + of, (long) inputs * inputs, () -> lab.stability(0, 1, 1));
        check.due("degree over two" + of, Integer.bitCount(table) % 2 == 1, () -> lab.degree(0, true) == letters);
        int influences = 0;
        int powers = 0;
        for (int letter = 0; letter < letters; letter++) {
            int each = letter;
            check.due("influence " + each + of, bySet[each] / inputs, () -> lab.influence(0, each));
            influences += lab.influence(0, letter);
            powers += lab.power(0, letter);
        }
        int turns = influences / 2;
        int orders = powers;
        int turnsOver = (lab.says(0, inputs - 1) ? 1 : 0) - (lab.says(0, 0) ? 1 : 0);
        check.due("powers" + of, ORDERS[letters] * turnsOver, () -> orders);
        check.due("depths of one letter" + of, turns, () -> lab.restricted(0, 1));
        check.due("mean influence" + of, 2f * turns / inputs, () -> lab.meanInfluence(0));
    }

    private void sizes() {
        int depth = lab.depth(0);
        int certificate = lab.measure(0, 'c');
        boolean isOdd = Integer.bitCount(lab.bits(0)) % 2 == 1;
        check.due("an odd number of yes needs all questions" + of, true, () -> !isOdd || depth == letters);
        check.due("depth by certificates" + of, true, () -> depth >= certificate && depth <= certificate * certificate);
        check.due("block number" + of, true,
                () -> lab.measure(0, 's') <= lab.measure(0, 'b') && lab.measure(0, 'b') <= certificate);
        check.due("width" + of, true, () -> lab.width(0) > depth && lab.width(0) <= 1 << depth);
        check.due("depths of all letters" + of, depth, () -> lab.restricted(0, letters));
        check.due("degrees" + of, true, () -> lab.degree(0, false) <= depth && lab.degree(0, true) <= lab.degree(0, false));
    }

    private void kinds() {
        int mattering = 0;
        for (int letter = 0; letter < letters; letter++) {
            mattering += lab.matters(0, letter) ? 1 : 0;
        }
        int matters = mattering;
        boolean isMonotone = lab.isMonotone(0);
        check.due("far from monotone ones" + of, isMonotone, () -> lab.far(0, 'm') == 0);
        check.due("far from two letters" + of, matters <= 2, () -> lab.far(0, 'j') == 0);
        check.due("degree over two of sums" + of, lab.far(0, 'l') == 0, () -> lab.degree(0, true) <= 1);
        check.due("a list is a threshold" + of, true, () -> !lab.isList(0) || lab.isThreshold(0));
        check.due("without questions" + of, matters == 0, () -> lab.depth(0) == 0);
        for (int letter = 0; letter < letters; letter++) {
            int each = letter;
            check.due("power of a monotone one" + of, true,
                    () -> !isMonotone || lab.power(0, each) > 0 == lab.matters(0, each));
            check.due("swings of a monotone one" + of, true,
                    () -> !isMonotone || 2 * lab.swings(0, each) == lab.influence(0, each));
        }
    }

    private void talks() {
        for (int part = 1; part < inputs - 1; part++) {
            int set = part;
            int others = inputs - 1 - part;
            int bits = lab.talk(0, set);
            check.due("talk turned " + set + of, bits, () -> lab.talk(0, others));
            check.due("fooling turned " + set + of, lab.fooling(0, others), () -> lab.fooling(0, set));
            check.due("rank turned " + set + of, lab.rank(0, others, false), () -> lab.rank(0, set, false));
            check.due("enough bits " + set + of, true, () -> lab.fooling(0, set) <= 1 << bits
                    && lab.rank(0, set, true) <= 1 << bits
                    && lab.rank(0, set, false) <= 1 << bits
                    && bits <= lab.depth(0)
                    && bits <= 1 + Math.min(Integer.bitCount(set), Integer.bitCount(others)));
        }
    }

    private void formulas() {
        int mattering = 0;
        for (int letter = 0; letter < letters; letter++) {
            mattering += lab.matters(0, letter) ? 1 : 0;
        }
        int matters = mattering;
        int size = lab.formula(0, false);
        Object monotone = Check.outcome(() -> lab.formula(0, true));
        check.due("letters of a formula" + of, true, () -> size >= matters && lab.isReadOnce(0) == (size == matters));
        check.due("monotone formula" + of, lab.isMonotone(0), () -> monotone instanceof Integer);
        check.due("formula without opposites" + of, true, () -> !(monotone instanceof Integer) || (Integer) monotone >= size);
        check.due("gates by letters" + of, true, () -> gates() >= matters - 1 && (gates() == 4 || gates() <= Math.max(0, size - 1)));
    }
}
