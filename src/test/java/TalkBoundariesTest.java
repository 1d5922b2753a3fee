import java.io.IOException;

/** The boundary cases of the promises 29 to 39, sentence by sentence. */
public final class TalkBoundariesTest extends Boundaries {
    private TalkBoundariesTest() throws IOException {
    }

    public static void main(String[] args) throws IOException {
        TalkBoundariesTest all = new TalkBoundariesTest();
        all.promise29();
        all.promise30();
        all.promise31();
        all.promise32();
        all.promise33();
        all.promise34();
        all.promise35();
        all.promise36();
        all.promise37();
        all.promise38();
        all.promise39();
        all.eachSentenceIsTested(29, 39);
        all.end();
    }

    // ---- formulas and circuits

    private void promise29() {
        promise(29);
        says("Returns the least size of a formula of a function of at most 3 letters.");
        due(tables(3, 0x96), 10, lab -> lab.formula(0, false));
        refused(tables(4, 0x00), UNSUPPORTED, lab -> lab.formula(0, false));
        byFunction(4, (lab, function) -> lab.formula(function, false), (lab, function) -> lab.formula(function, true));

        says("- `isMonotone`: whether without opposites");
        for (int each = 1; each <= 3; each++) {
            int letters = each;
            int opposite = ALWAYS[letters] - LAST_LETTER[letters];
            due(tables(letters, LAST_LETTER[letters]), 1, lab -> lab.formula(0, true));
            due(tables(letters, LAST_LETTER[letters]), 1, lab -> lab.formula(0, false));
            due(tables(letters, opposite), 1, lab -> lab.formula(0, false));
            refused(tables(letters, opposite), NO_SUCH, lab -> lab.formula(0, true));
        }

        says("Returns the size.");
        for (int each = 1; each <= 3; each++) {
            int letters = each;
            for (boolean isMonotone : new boolean[] {false, true}) {
                due(tables(letters, 0), 0, lab -> lab.formula(0, isMonotone));
                due(tables(letters, ALWAYS[letters]), 0, lab -> lab.formula(0, isMonotone));
                due(tables(letters, FIRST_LETTER[letters]), 1, lab -> lab.formula(0, isMonotone));
                due(tables(letters, 1 << (1 << letters) - 1), letters, lab -> lab.formula(0, isMonotone));
            }
        }

        fourLettersAreRefused(lab -> lab.formula(3, false));
        fourLettersAreRefused(lab -> lab.formula(3, true));

        says("Throws `NoSuchElementException` if there is no such formula");
        refused(tables(3, 0x96), NO_SUCH, lab -> lab.formula(0, true));
        refused(FULL, NO_SUCH, lab -> lab.formula(1, true), lab -> lab.formula(2, true));
        for (int letters = 1; letters <= 3; letters++) {
            for (int table = 0; table <= ALWAYS[letters]; table++) {
                Deed made = tables(letters, table);
                boolean isMonotone = isMonotone(letters, table);
                due(made, !isMonotone, lab -> NO_SUCH.equals(Check.outcome(() -> lab.formula(0, true))));
                due(made, false, lab -> NO_SUCH.equals(Check.outcome(() -> lab.formula(0, false))));
            }
        }
    }

    private static boolean isMonotone(int letters, int table) {
        for (int input = 0; input < (1 << letters); input++) {
            for (int more = 0; more < (1 << letters); more++) {
                if ((input & more) == input && (table >> input & 1) > (table >> more & 1)) {
                    return false;
                }
            }
        }
        return true;
    }

    /** The call is of the function 3; three letters are not too many, and four are refused, whatever the table. */
    private void fourLettersAreRefused(Deed call) {
        says("Throws `UnsupportedOperationException` if it has 4 letters");
        for (int table : new int[] {0, 65535, 0xAAAA, 0xFF00, 0x5555, 0x6996, 0x8000, 0x0888, 0x1BD6}) {
            refused(tables(4, 0, 0, 0, table), UNSUPPORTED, call);
            refused(upTo(tables(4, 0, 0, 0, table), 24), UNSUPPORTED, call);
            due(tables(3, 0, 0, 0, 0x80), false, lab -> UNSUPPORTED.equals(Check.outcome(() -> call.on(lab))));
        }
    }

    private void promise30() {
        promise(30);
        says("Returns whether some formula has each letter that matters just once, and no others, "
                + "of a function of at most 3 letters.");
        due(tables(3, 0xA8), true, lab -> lab.isReadOnce(0));
        due(tables(3, 0xE8), false, lab -> lab.isReadOnce(0));
        due(tables(3, 0x88), true, lab -> lab.isReadOnce(0));
        refused(tables(4, 0x8888), UNSUPPORTED, lab -> lab.isReadOnce(0));
        byFunctionOf(3, 0xE8, false,
                (lab, function) -> lab.isReadOnce(function), (lab, function) -> lab.isReadOnce(function));

        says("Returns true if so, for constants, too.");
        for (int each = 1; each <= 3; each++) {
            int letters = each;
            due(tables(letters, 0), true, lab -> lab.isReadOnce(0));
            due(tables(letters, ALWAYS[letters]), true, lab -> lab.isReadOnce(0));
            due(tables(letters, 1), true, lab -> lab.isReadOnce(0));
            due(tables(letters, SUM_OF_ALL[letters]), letters == 1, lab -> lab.isReadOnce(0));
        }

        fourLettersAreRefused(lab -> lab.isReadOnce(3));
    }

    private void promise31() {
        promise(31);
        says("Returns the least number of gates of a circuit of a function of at most 3 letters.");
        due(tables(3, 0x80), 2, lab -> lab.gates(0));
        due(tables(2, 0x8), 1, lab -> lab.gates(0));
        refused(tables(4, 0), UNSUPPORTED, lab -> lab.gates(0));
        byFunction(3, (lab, function) -> lab.gates(function), (lab, function) -> lab.gates(function));

        says("Returns the number of gates, 0 to 3.");
        for (int each = 1; each <= 3; each++) {
            int letters = each;
            for (int table = 0; table <= ALWAYS[letters]; table++) {
                boolean isPlain = isConstantOrLetter(letters, table)
                        || isConstantOrLetter(letters, ALWAYS[letters] - table);
                due(tables(letters, table), isPlain,
                        lab -> Integer.valueOf(0).equals(Check.outcome(() -> lab.gates(0))));
            }
        }
        due(tables(3, 0xCA), 3, lab -> lab.gates(0));
        due(tables(3, 0x18), 3, lab -> lab.gates(0));
        refused(tables(3, 0xE8), NO_SUCH, lab -> lab.gates(0));

        fourLettersAreRefused(lab -> lab.gates(3));

        says("Throws `NoSuchElementException` if there are more than 3");
        refused(tables(3, 0xE8, 0x17), NO_SUCH, lab -> lab.gates(0), lab -> lab.gates(1));
        refused(upTo(tables(3, 0xE8), 24), NO_SUCH, lab -> lab.gates(0));
        due(tables(3, 0x69), 2, lab -> lab.gates(0));
    }

    private static boolean isConstantOrLetter(int letters, int table) {
        boolean isLetter = false;
        for (int letter = 0; letter < letters; letter++) {
            int yes = 0;
            for (int input = 0; input < (1 << letters); input++) {
                yes |= (input >> letter & 1) << input;
            }
            isLetter |= table == yes;
        }
        return table == 0 || isLetter;
    }

    // ---- talks

    private void promise32() {
        promise(32);
        says("Returns a rank of the matrix.");
        due(tables(4, 0x8421), 4, lab -> lab.rank(0, 3, true));
        byFunction(2, (lab, function) -> lab.rank(function, 4, true), (lab, function) -> lab.rank(function, 0, true));
        sets(1, 1, (lab, function, set) -> lab.rank(function, set, false));

        says("- `isOverTwo`: whether over two, not over three");
        due(tables(4, 0x7BDE), 4, lab -> lab.rank(0, 3, true));
        due(tables(4, 0x7BDE), 3, lab -> lab.rank(0, 3, false));

        says("Returns the rank.");
        for (boolean isOverTwo : new boolean[] {false, true}) {
            for (int each = 2; each <= 4; each++) {
                int letters = each;
                due(tables(letters, 0), 0, lab -> lab.rank(0, 1, isOverTwo));
                due(tables(letters, ALWAYS[letters]), 1, lab -> lab.rank(0, 1, isOverTwo));
                due(tables(letters, SUM_OF_ALL[letters]), 2, lab -> lab.rank(0, 1, isOverTwo));
            }
            due(tables(4, 0x8421), 4, lab -> lab.rank(0, 12, isOverTwo));
        }

        refusedSets((lab, function, set) -> lab.rank(function, set, true));
        refusedSets((lab, function, set) -> lab.rank(function, set, false));
    }

    private void promise33() {
        promise(33);
        says("Returns the size of a greatest fooling set.");
        due(tables(4, 0x8421), 4, lab -> lab.fooling(0, 3));
        byFunction(2, (lab, function) -> lab.fooling(function, 4), (lab, function) -> lab.fooling(function, 0));
        sets(2, 2, (lab, function, set) -> lab.fooling(function, set));

        says("Returns the number of places.");
        for (int each = 2; each <= 4; each++) {
            int letters = each;
            due(tables(letters, 0), 1, lab -> lab.fooling(0, 1));
            due(tables(letters, ALWAYS[letters]), 1, lab -> lab.fooling(0, 1));
            due(tables(letters, SUM_OF_ALL[letters]), 2, lab -> lab.fooling(0, 1));
        }
        due(tables(4, 0x7BDE), 4, lab -> lab.fooling(0, 12));

        refusedSets((lab, function, set) -> lab.fooling(function, set));
    }

    private void promise34() {
        promise(34);
        says("Returns the cost of a talk.");
        due(tables(4, 0x8421), 3, lab -> lab.talk(0, 3));
        byFunction(2, (lab, function) -> lab.talk(function, 4), (lab, function) -> lab.talk(function, 0));
        sets(2, 2, (lab, function, set) -> lab.talk(function, set));

        says("Returns the number of bits.");
        for (int each = 2; each <= 4; each++) {
            int letters = each;
            due(tables(letters, 0), 0, lab -> lab.talk(0, 1));
            due(tables(letters, ALWAYS[letters]), 0, lab -> lab.talk(0, 1));
            due(tables(letters, FIRST_LETTER[letters]), 1, lab -> lab.talk(0, 1));
            due(tables(letters, LAST_LETTER[letters]), 1, lab -> lab.talk(0, 1));
            due(tables(letters, SUM_OF_ALL[letters]), 2, lab -> lab.talk(0, 1));
        }
        due(tables(4, 0x7BDE), 3, lab -> lab.talk(0, 12));

        refusedSets((lab, function, set) -> lab.talk(function, set));
    }

    /** The least and the greatest set of two to four letters, of the function that is 1 where all letters are. */
    private void sets(Object wantOfFirst, Object wantOfLast, ByTwo call) {
        says("- `set`: the letters of the one, as bits");
        for (int each = 2; each <= 4; each++) {
            int letters = each;
            int all = (1 << letters) - 1;
            Deed made = tables(letters, 1 << all);
            due(made, wantOfFirst, lab -> call.on(lab, 0, 1));
            due(made, wantOfLast, lab -> call.on(lab, 0, all - 1));
            refused(made, ARGUMENT, lab -> call.on(lab, 0, 0), lab -> call.on(lab, 0, all));
        }
    }

    private void refusedSets(ByTwo call) {
        says("Throws `IllegalArgumentException` if there is no such set, it is none, or all letters");
        for (Deed made : new Deed[] {SOME, FULL}) {
            refusedNumbers(made, ARGUMENT, new int[] {0, 1, 2, 3, 4, -1, -2}, (lab, set) -> call.on(lab, 0, set));
            for (int each = 2; each <= 4; each++) {
                int letters = each;
                int[] others = beyond(1, (1 << letters) - 2);
                refusedNumbers(made, ARGUMENT, others, (lab, set) -> call.on(lab, letters - 1, set));
            }
        }
    }

    // ---- thresholds, tests

    private void promise35() {
        promise(35);
        says("Returns whether a function is a threshold by weights from -3 to 3.");
        due(tables(4, 0x7F11), true, lab -> lab.isThreshold(0));
        due(tables(4, 0x1757), true, lab -> lab.isThreshold(0));
        byFunctionOf(4, 0xF888, false,
                (lab, function) -> lab.isThreshold(function), (lab, function) -> lab.isThreshold(function));

        says("Returns true if so.");
        for (int each = 1; each <= 4; each++) {
            int letters = each;
            due(tables(letters, 0), true, lab -> lab.isThreshold(0));
            due(tables(letters, ALWAYS[letters]), true, lab -> lab.isThreshold(0));
            due(tables(letters, 1), true, lab -> lab.isThreshold(0));
            due(tables(letters, ALWAYS[letters] - 1), true, lab -> lab.isThreshold(0));
            due(tables(letters, SUM_OF_ALL[letters]), letters == 1, lab -> lab.isThreshold(0));
        }
    }

    private void promise36() {
        promise(36);
        says("Returns one of the least weights, or the bound.");
        weightsAre(4, 0x7F11, -2, -2, -1, 3, -1);
        weightsAre(4, 0x1757, -3, -2, -2, -1, -4);
        byFunctionOf(3, 0xE8, 1,
                (lab, function) -> lab.weight(function, 2), (lab, function) -> lab.weight(function, 5));

        says("- `index`: the letter, or the number of letters for the bound");
        for (int each = 1; each <= 4; each++) {
            int letters = each;
            int lastAlone = LAST_LETTER[letters];
            due(tables(letters, lastAlone), letters == 1 ? 1 : 0, lab -> lab.weight(0, 0));
            due(tables(letters, lastAlone), 1, lab -> lab.weight(0, letters - 1));
            due(tables(letters, lastAlone), 1, lab -> lab.weight(0, letters));
            refused(tables(letters, lastAlone), ARGUMENT, lab -> lab.weight(0, -1), lab -> lab.weight(0, letters + 1));
        }

        says("Returns the number.");
        weightsAre(1, 0, 0, 13);
        weightsAre(1, 3, 0, 0);
        weightsAre(4, 0, 0, 0, 0, 0, 13);
        weightsAre(4, 65535, 0, 0, 0, 0, 0);
        weightsAre(4, 0x8000, 1, 1, 1, 1, 4);
        weightsAre(4, 0x7FFF, -1, -1, -1, -1, -3);
        weightsAre(4, 0x0001, -1, -1, -1, -1, 0);
        weightsAre(4, 0xFFFE, 1, 1, 1, 1, 1);

        says("Throws `IllegalArgumentException` if there is no such index");
        for (int each = 1; each <= 4; each++) {
            int letters = each;
            int[] others = beyond(0, letters);
            refusedNumbers(SOME, ARGUMENT, others, (lab, index) -> lab.weight(letters - 1, index));
            refusedNumbers(FULL, ARGUMENT, others, (lab, index) -> lab.weight(letters - 1, index));
        }

        says("Throws `NoSuchElementException` if it is no such threshold");
        for (int each = 2; each <= 4; each++) {
            int letters = each;
            for (int index = 0; index <= letters; index++) {
                int asked = index;
                refused(tables(letters, SUM_OF_ALL[letters]), NO_SUCH, lab -> lab.weight(0, asked));
            }
            refused(tables(letters, SUM_OF_ALL[letters]), ARGUMENT,
                    lab -> lab.weight(0, -1), lab -> lab.weight(0, letters + 1));
        }
        refused(FULL, NO_SUCH, lab -> lab.weight(1, 0), lab -> lab.weight(3, 4));
    }

    /** All weights, and the bound behind them. */
    private void weightsAre(int letters, int table, int... wants) {
        for (int index = 0; index <= letters; index++) {
            int asked = index;
            due(tables(letters, table), wants[index], lab -> lab.weight(0, asked));
        }
    }

    private void promise37() {
        promise(37);
        says("Returns the distance of two functions.");
        due(tables(4, 0x0001, 0x8000), 2, lab -> lab.distance(0, 1));
        due(tables(4, 0x0001, 0x8000), 2, lab -> lab.distance(1, 0));
        byTwo(3, 0xCA, 0, (lab, one, other) -> lab.distance(one, other), (lab, one, other) -> lab.distance(one, other));

        says("Returns the number of inputs.");
        for (int each = 1; each <= 4; each++) {
            int letters = each;
            int all = ALWAYS[letters];
            due(tables(letters, 0, all), 1 << letters, lab -> lab.distance(0, 1));
            due(tables(letters, 1, all), (1 << letters) - 1, lab -> lab.distance(0, 1));
            due(tables(letters, 1, all), 0, lab -> lab.distance(0, 0));
            due(tables(letters, all, all), 0, lab -> lab.distance(0, 1));
        }

        says("Throws `UnsupportedOperationException` if they have unlike numbers of letters");
        unlikeLetters((lab, one, other) -> lab.distance(one, other));
        refused(tables(1, 0), INDEX, lab -> lab.distance(0, 1));
    }

    private void promise38() {
        promise(38);
        says("Returns the distance to a kind.");
        for (int each = 1; each <= 4; each++) {
            int letters = each;
            for (char kind : "lmdj".toCharArray()) {
                due(tables(letters, LAST_LETTER[letters]), 0, lab -> lab.far(0, kind));
            }
        }
        byFunction(2, (lab, function) -> lab.far(function, 'j'), (lab, function) -> lab.far(function, 'z'));

        says("- `kind`: 'l', 'm', 'd' or 'j'");
        due(tables(4, 0x7FFF), 1, lab -> lab.far(0, 'l'));
        due(tables(4, 0x7FFF), 1, lab -> lab.far(0, 'm'));
        due(tables(4, 0x7FFF), 9, lab -> lab.far(0, 'd'));
        due(tables(4, 0x7FFF), 1, lab -> lab.far(0, 'j'));
        due(tables(4, 0x6996), 8, lab -> lab.far(0, 'd'));
        due(tables(4, 0x6996), 8, lab -> lab.far(0, 'j'));
        due(tables(4, 0x6996), 0, lab -> lab.far(0, 'l'));
        signs(tables(4, 0x6996), "lmdj", (lab, kind) -> lab.far(0, kind));

        says("Returns the number of inputs.");
        for (int each = 1; each <= 4; each++) {
            int letters = each;
            for (int table : new int[] {0, ALWAYS[letters]}) {
                due(tables(letters, table), 0, lab -> lab.far(0, 'l'));
                due(tables(letters, table), 0, lab -> lab.far(0, 'm'));
                due(tables(letters, table), 1 << (letters - 1), lab -> lab.far(0, 'd'));
                due(tables(letters, table), 0, lab -> lab.far(0, 'j'));
            }
            due(tables(letters, 1), letters <= 1 ? 0 : 1, lab -> lab.far(0, 'l'));
            due(tables(letters, 1), 1, lab -> lab.far(0, 'm'));
            due(tables(letters, 1), (1 << (letters - 1)) + 1, lab -> lab.far(0, 'd'));
            due(tables(letters, 1), letters <= 2 ? 0 : 1, lab -> lab.far(0, 'j'));
        }

        says("Throws `IllegalArgumentException` if there is no such kind");
        signs(SOME, "lmdj", (lab, kind) -> lab.far(3, kind));
        signs(FULL, "lmdj", (lab, kind) -> lab.far(0, kind));
    }

    private void promise39() {
        promise(39);
        says("Returns how many pairs of inputs pass the test of sums.");
        due(tables(2, 8), 10, lab -> lab.passes(0));
        byFunction(40, (lab, function) -> lab.passes(function), (lab, function) -> lab.passes(function));

        says("Returns the number of pairs, by order.");
        for (int each = 1; each <= 4; each++) {
            int letters = each;
            due(tables(letters, 0), 1 << 2 * letters, lab -> lab.passes(0));
            due(tables(letters, SUM_OF_ALL[letters]), 1 << 2 * letters, lab -> lab.passes(0));
            due(tables(letters, ALWAYS[letters]), 0, lab -> lab.passes(0));
            due(tables(letters, ALWAYS[letters] - SUM_OF_ALL[letters]), 0, lab -> lab.passes(0));
        }
    }
}
