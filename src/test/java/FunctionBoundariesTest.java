import java.io.IOException;

/** The boundary cases of the promises 1 to 12, sentence by sentence. */
public final class FunctionBoundariesTest extends Boundaries {
    private FunctionBoundariesTest() throws IOException {
    }

    public static void main(String[] args) throws IOException {
        FunctionBoundariesTest all = new FunctionBoundariesTest();
        all.promise1();
        all.promise2();
        all.promise3();
        all.promise4();
        all.promise5();
        all.promise6();
        all.promise7();
        all.promise8();
        all.promise9();
        all.promise10();
        all.promise11();
        all.promise12();
        all.eachSentenceIsTested(1, 12);
        all.end();
    }

    private void promise1() {
        promise(1);
        says("Creates a laboratory without functions.");
        due(NEW, 0, lab -> lab.functions());
        due(NEW, 7L, lab -> lab.checksum());
        refused(NEW, INDEX, lab -> lab.letters(0), lab -> lab.bits(0), lab -> lab.depth(0));
        refused(NEW, UNSUPPORTED, lab -> lab.threshold(0));
        refused(NEW, STATE, lab -> lab.ask(0), lab -> lab.isSettled());
    }

    private void promise2() {
        promise(2);
        says("Adds a function.");
        due(NEW, 1, lab -> {
            lab.table(1, 0);
            return lab.functions();
        });

        says("- `letters`: 1 to 4");
        for (int each = 1; each <= 4; each++) {
            int letters = each;
            due(NEW, letters, lab -> lab.letters(lab.table(letters, 0)));
        }
        refused(NEW, ARGUMENT, lab -> lab.table(0, 0), lab -> lab.table(5, 0));

        says("- `bits`: the table");
        for (int each = 1; each <= 4; each++) {
            int letters = each;
            int top = ALWAYS[letters];
            due(NEW, 0, lab -> lab.bits(lab.table(letters, 0)));
            due(NEW, 1, lab -> lab.bits(lab.table(letters, 1)));
            due(NEW, top - 1, lab -> lab.bits(lab.table(letters, top - 1)));
            due(NEW, top, lab -> lab.bits(lab.table(letters, top)));
            refused(NEW, ARGUMENT,
                    lab -> lab.table(letters, -1), lab -> lab.table(letters, top + 1));
        }

        says("Throws `IllegalArgumentException` if the letters are out of range, or there is no such table");
        for (Deed made : new Deed[] {NEW, SOME, FULL}) {
            refusedNumbers(made, ARGUMENT, beyond(1, 4), (lab, letters) -> lab.table(letters, 0));
            refusedNumbers(made, ARGUMENT, beyond(1, 4), (lab, letters) -> lab.table(letters, 1 << 16));
            for (int each = 1; each <= 4; each++) {
                int letters = each;
                int[] others = beyond(0, ALWAYS[letters]);
                refusedNumbers(made, ARGUMENT, others, (lab, bits) -> lab.table(letters, bits));
            }
        }
        adds(NEW, lab -> lab.table(4, 65535));
    }

    private void promise3() {
        promise(3);
        says("Puts a weight behind the weights.");
        due(NEW, 0b1010, lab -> {
            lab.weigh(2);
            lab.weigh(1);
            return lab.bits(lab.threshold(2));
        });

        says("- `weight`: -9 to 9");
        int[] tablesOfLeast = {0b11, 0b01};
        int[] tablesOfGreatest = {0b10, 0b00};
        for (int each = 0; each <= 1; each++) {
            int more = each;
            due(lab -> lab.weigh(-9), tablesOfLeast[more], lab -> lab.bits(lab.threshold(-9 + more)));
            due(lab -> lab.weigh(9), tablesOfGreatest[more], lab -> lab.bits(lab.threshold(9 + more)));
        }
        due(NEW, 1, lab -> lab.weigh(0));
        refused(NEW, ARGUMENT, lab -> lab.weigh(-10), lab -> lab.weigh(10));

        says("Returns how many there are.");
        due(NEW, 1, lab -> lab.weigh(-9));
        due(FunctionBoundariesTest::threeWeights, 4, lab -> lab.weigh(9));
        due(FunctionBoundariesTest::fourWeights, 1, lab -> {
            lab.threshold(0);
            return lab.weigh(1);
        });

        says("Throws `IllegalArgumentException` if it is out of range");
        int[] others = beyond(-9, 9);
        refusedNumbers(NEW, ARGUMENT, others, (lab, weight) -> lab.weigh(weight));
        refusedNumbers(SOME, ARGUMENT, others, (lab, weight) -> lab.weigh(weight));
        refusedNumbers(FunctionBoundariesTest::fourWeights, ARGUMENT, others, (lab, weight) -> lab.weigh(weight));

        says("Throws `IllegalStateException` if there are 4");
        due(FunctionBoundariesTest::threeWeights, 4, lab -> lab.weigh(-9));
        refused(FunctionBoundariesTest::fourWeights, STATE,
                lab -> lab.weigh(-9), lab -> lab.weigh(0), lab -> lab.weigh(9));
        due(FULL, 4, lab -> {
            lab.weigh(1);
            return lab.weigh(1);
        });
    }

    private static Object threeWeights(YesNoLab lab) {
        lab.weigh(9);
        lab.weigh(-4);
        return lab.weigh(0);
    }

    private static Object fourWeights(YesNoLab lab) {
        threeWeights(lab);
        return lab.weigh(0);
    }

    private void promise4() {
        promise(4);
        says("Adds the threshold of the weights, which are none then; a letter for each.");
        for (int each = 1; each <= 4; each++) {
            int weights = each;
            due(sameWeights(weights, 1), weights, lab -> lab.letters(lab.threshold(1)));
            due(sameWeights(weights, 1), 1, lab -> {
                lab.threshold(1);
                return lab.weigh(1);
            });
        }

        says("- `bound`: the bound");
        Deed most = sameWeights(4, 9);
        due(most, 0x8000, lab -> lab.bits(lab.threshold(36)));
        due(most, 0, lab -> lab.bits(lab.threshold(37)));
        due(most, 65535, lab -> lab.bits(lab.threshold(0)));
        due(most, 65534, lab -> lab.bits(lab.threshold(1)));
        due(most, 0, lab -> lab.bits(lab.threshold(Integer.MAX_VALUE)));
        due(most, 65535, lab -> lab.bits(lab.threshold(Integer.MIN_VALUE)));
        Deed least = sameWeights(4, -9);
        due(least, 65535, lab -> lab.bits(lab.threshold(-36)));
        due(least, 0x7FFF, lab -> lab.bits(lab.threshold(-35)));
        due(least, 1, lab -> lab.bits(lab.threshold(0)));
        due(least, 0, lab -> lab.bits(lab.threshold(1)));
        due(least, 0, lab -> lab.bits(lab.threshold(Integer.MAX_VALUE)));
        due(least, 65535, lab -> lab.bits(lab.threshold(Integer.MIN_VALUE)));

        adds(sameWeights(4, 1), lab -> lab.threshold(2));
        refused(FULL, STATE,
                lab -> lab.threshold(0), lab -> lab.threshold(Integer.MIN_VALUE),
                lab -> lab.threshold(Integer.MAX_VALUE));
        due(FULL, 3, lab -> {
            Check.outcome(() -> lab.threshold(0));
            return lab.weigh(0);
        });

        says("Throws `UnsupportedOperationException` if there are no weights");
        refused(NEW, UNSUPPORTED,
                lab -> lab.threshold(0), lab -> lab.threshold(Integer.MIN_VALUE),
                lab -> lab.threshold(Integer.MAX_VALUE));
        refused(lab -> {
            lab.weigh(1);
            return lab.threshold(1);
        }, UNSUPPORTED, lab -> lab.threshold(1));
        refused(upTo(NEW, 24), UNSUPPORTED, lab -> lab.threshold(1));
        due(lab -> lab.weigh(0), 0, lab -> lab.threshold(1));
    }

    private static Deed sameWeights(int weights, int weight) {
        return lab -> {
            for (int more = 0; more < weights; more++) {
                lab.weigh(weight);
            }
            return weights;
        };
    }

    private void promise5() {
        promise(5);
        says("Adds what two functions of as many letters make.");
        for (int each = 1; each <= 4; each++) {
            int letters = each;
            int first = FIRST_LETTER[letters];
            int last = LAST_LETTER[letters];
            due(tables(letters, first, last), first & last, lab -> lab.bits(lab.join(0, 1, 'a')));
            due(tables(letters, first, last), first | last, lab -> lab.bits(lab.join(0, 1, 'o')));
            due(tables(letters, first, last), first ^ last, lab -> lab.bits(lab.join(0, 1, 'x')));
            due(tables(letters, first, last), letters, lab -> lab.letters(lab.join(0, 1, 'x')));
        }

        byTwo(3, 0xCA, 0xCA,
                (lab, one, other) -> lab.bits(lab.join(one, other, 'a')),
                (lab, one, other) -> lab.join(one, other, 'z'));
        says("- `other`: that of another one, or the same");
        due(tables(4, 0x1BD6), 0x1BD6, lab -> lab.bits(lab.join(0, 0, 'o')));
        due(tables(4, 0x1BD6), 0, lab -> lab.bits(lab.join(0, 0, 'x')));

        says("- `by`: 'a' and, 'o' or, 'x' one of both");
        signs(tables(2, 10, 12), "aox", (lab, by) -> lab.join(0, 1, by));

        says("Throws `IllegalArgumentException` if there is no such way");
        signs(SOME, "aox", (lab, by) -> lab.join(3, 3, by));
        refused(SOME, ARGUMENT, lab -> lab.join(0, 3, 'n'), lab -> lab.join(3, 2, '\0'));
        signs(FULL, "aox", (lab, by) -> lab.join(0, 3, by));

        says("Throws `UnsupportedOperationException` if they have unlike numbers of letters");
        for (char by : "aox".toCharArray()) {
            unlikeLetters((lab, one, other) -> lab.join(one, other, by));
        }

        adds(tables(4, 1, 2), lab -> lab.join(0, 1, 'a'));
        adds(tables(4, 1, 2), lab -> lab.join(0, 1, 'o'));
        adds(tables(4, 1, 2), lab -> lab.join(1, 1, 'x'));
    }

    private void promise6() {
        promise(6);
        says("Adds a function that is turned.");
        for (int each = 1; each <= 4; each++) {
            int letters = each;
            due(tables(letters, 1), letters, lab -> lab.letters(lab.turn(0, 'n')));
            due(tables(letters, 1), letters, lab -> lab.letters(lab.turn(0, 'd')));
            due(tables(letters, 1), letters, lab -> lab.letters(lab.turn(0, 'i')));
        }

        byFunctionWithRoom(0x35,
                (lab, function) -> lab.bits(lab.turn(function, 'n')), (lab, function) -> lab.turn(function, 'z'));

        says("- `how`: 'n' the opposite, 'd' the dual: the opposite of all letters and of the answer, 'i' all "
                + "letters turned over");
        for (int each = 1; each <= 4; each++) {
            int letters = each;
            int top = ALWAYS[letters];
            int lastInput = 1 << ((1 << letters) - 1);
            due(tables(letters, 0), top, lab -> lab.bits(lab.turn(0, 'n')));
            due(tables(letters, top), 0, lab -> lab.bits(lab.turn(0, 'n')));
            due(tables(letters, 0), top, lab -> lab.bits(lab.turn(0, 'd')));
            due(tables(letters, top), 0, lab -> lab.bits(lab.turn(0, 'd')));
            due(tables(letters, 0), 0, lab -> lab.bits(lab.turn(0, 'i')));
            due(tables(letters, top), top, lab -> lab.bits(lab.turn(0, 'i')));
            due(tables(letters, 1), lastInput, lab -> lab.bits(lab.turn(0, 'i')));
            due(tables(letters, 1), top - lastInput, lab -> lab.bits(lab.turn(0, 'd')));
        }
        signs(tables(2, 2), "ndi", (lab, how) -> lab.turn(0, how));

        says("Throws `IllegalArgumentException` if there is no such way");
        signs(SOME, "ndi", (lab, how) -> lab.turn(3, how));
        signs(FULL, "ndi", (lab, how) -> lab.turn(23, how));

        for (char how : "ndi".toCharArray()) {
            adds(tables(4, 1), lab -> lab.turn(0, how));
        }
    }

    private void promise7() {
        promise(7);
        says("Adds a function without a letter, which is fixed; higher letters become one lower.");
        due(tables(4, 0xFF00), 0xF0, lab -> lab.bits(lab.fix(0, 0, true)));
        due(tables(4, 0xFF00), 0xF0, lab -> lab.bits(lab.fix(0, 2, false)));
        due(tables(4, 0xF0F0), 0xF0, lab -> lab.bits(lab.fix(0, 3, true)));
        due(tables(4, 0xAAAA), 0xAA, lab -> lab.bits(lab.fix(0, 3, false)));
        for (int each = 2; each <= 4; each++) {
            int letters = each;
            due(tables(letters, 1), letters - 1, lab -> lab.letters(lab.fix(0, 0, true)));
            due(tables(letters, 1), letters - 1, lab -> lab.letters(lab.fix(0, letters - 1, false)));
        }

        byFunctionWithRoom(0xC,
                (lab, function) -> lab.bits(lab.fix(function, 2, true)), (lab, function) -> lab.fix(function, 9, true));

        Object[] always = {UNSUPPORTED, 3, 15, 255};
        Object[] never = {UNSUPPORTED, 0, 0, 0};
        byLetter(always, always, (lab, function, letter) -> lab.bits(lab.fix(function, letter, true)));
        byLetter(never, never, (lab, function, letter) -> lab.bits(lab.fix(function, letter, false)));

        says("- `isYes`: whether the letter is 1");
        due(tables(2, 0b1000), 0b10, lab -> lab.bits(lab.fix(0, 1, true)));
        due(tables(2, 0b1000), 0b00, lab -> lab.bits(lab.fix(0, 1, false)));
        due(tables(2, 0b1101), 0b11, lab -> lab.bits(lab.fix(0, 0, false)));
        due(tables(2, 0b1101), 0b10, lab -> lab.bits(lab.fix(0, 0, true)));

        says("Throws `UnsupportedOperationException` if it has one letter");
        due(tables(2, 0b0100), 0b01, lab -> lab.bits(lab.fix(0, 1, true)));
        for (Deed made : new Deed[] {SOME, FULL}) {
            refused(made, UNSUPPORTED, lab -> lab.fix(0, 0, true), lab -> lab.fix(0, 0, false));
            refused(made, ARGUMENT, lab -> lab.fix(0, 1, true), lab -> lab.fix(0, -1, false));
        }

        adds(tables(2, 6), lab -> lab.fix(0, 0, true));
        adds(tables(4, 6), lab -> lab.fix(0, 3, false));
    }

    private void promise8() {
        promise(8);
        says("Adds the composition: each letter of the first one is the second one, of letters of its own, "
                + "those of the letter 0 first.");
        Deed pairs = tables(2, 0b1010, 0b1000, 0b1100);
        due(pairs, 0x8888, lab -> lab.bits(lab.compose(0, 1)));
        due(pairs, 0xF000, lab -> lab.bits(lab.compose(2, 1)));
        due(pairs, 0xA0A0, lab -> lab.bits(lab.compose(1, 0)));
        due(pairs, 0x8000, lab -> lab.bits(lab.compose(1, 1)));
        // A yes at the first input and at the last one.
        due(tables(2, 0b1001), 0x9669, lab -> lab.bits(lab.compose(0, 0)));
        due(tables(1, 0b01, 0b10), 0b01, lab -> lab.bits(lab.compose(0, 1)));

        ByTwo table = (lab, one, other) -> lab.bits(lab.compose(one, other));
        byTwo(1, 0b01, 0b10, table, table);

        says("Throws `UnsupportedOperationException` if it would have more than 4 letters");
        for (int one = 0; one < 4; one++) {
            for (int other = 0; other < 4; other++) {
                int each = one;
                int inner = other;
                int letters = (one + 1) * (other + 1);
                if (letters <= 4) {
                    due(SOME, letters, lab -> lab.letters(lab.compose(each, inner)));
                } else {
                    refused(SOME, UNSUPPORTED, lab -> lab.compose(each, inner));
                    refused(FULL, UNSUPPORTED, lab -> lab.compose(each, inner));
                }
            }
        }

        adds(tables(2, 8), lab -> lab.compose(0, 0));
        adds(lab -> {
            lab.table(1, 1);
            return lab.table(4, 1);
        }, lab -> lab.compose(0, 1));
    }

    private void promise9() {
        promise(9);
        says("Returns how many letters a function has.");
        due(SOME, 1, lab -> lab.letters(0));
        due(SOME, 4, lab -> lab.letters(3));
        byFunction(3, (lab, function) -> lab.letters(function), (lab, function) -> lab.letters(function));

        says("Returns the number of letters.");
        for (int each = 1; each <= 4; each++) {
            int letters = each;
            due(tables(letters, 0), letters, lab -> lab.letters(0));
            due(tables(letters, ALWAYS[letters]), letters, lab -> lab.letters(0));
        }
    }

    private void promise10() {
        promise(10);
        says("Returns the table of a function.");
        due(SOME, 2, lab -> lab.bits(0));
        due(SOME, 0xF888, lab -> lab.bits(3));
        byFunction(0xCA, (lab, function) -> lab.bits(function), (lab, function) -> lab.bits(function));

        says("Returns the table.");
        for (int each = 1; each <= 4; each++) {
            int letters = each;
            due(tables(letters, 0), 0, lab -> lab.bits(0));
            due(tables(letters, ALWAYS[letters]), ALWAYS[letters], lab -> lab.bits(0));
        }
    }

    private void promise11() {
        promise(11);
        says("Returns what a function says.");
        due(SOME, true, lab -> lab.says(0, 1));
        due(SOME, false, lab -> lab.says(0, 0));
        byFunction(true, (lab, function) -> lab.says(function, 1), (lab, function) -> lab.says(function, -1));

        says("- `input`: the input");
        for (int each = 1; each <= 4; each++) {
            int letters = each;
            int last = (1 << letters) - 1;
            due(tables(letters, 1), true, lab -> lab.says(0, 0));
            due(tables(letters, 1), false, lab -> lab.says(0, last));
            due(tables(letters, 1 << last), true, lab -> lab.says(0, last));
            due(tables(letters, 1 << last), false, lab -> lab.says(0, 0));
            refused(tables(letters, 1), ARGUMENT,
                    lab -> lab.says(0, -1), lab -> lab.says(0, last + 1));
        }

        says("Returns true for yes.");
        due(tables(4, 0), false, lab -> lab.says(0, 15));
        due(tables(4, 65535), true, lab -> lab.says(0, 15));

        says("Throws `IllegalArgumentException` if the function has no such input");
        refusedInputs((lab, function, input) -> lab.says(function, input));
    }

    private void promise12() {
        promise(12);
        says("Returns whether a letter matters.");
        due(tables(4, 0x8000), true, lab -> lab.matters(0, 3));
        due(tables(4, 0x0F0F), false, lab -> lab.matters(0, 3));
        byFunction(true, (lab, function) -> lab.matters(function, 2), (lab, function) -> lab.matters(function, -1));

        Object[] yes = {true, true, true, true};
        byLetter(yes, yes, (lab, function, letter) -> lab.matters(function, letter));

        says("Returns true if so.");
        for (int each = 1; each <= 4; each++) {
            int letters = each;
            boolean isOnlyOne = letters == 1;
            due(tables(letters, 0), false, lab -> lab.matters(0, 0));
            due(tables(letters, ALWAYS[letters]), false, lab -> lab.matters(0, letters - 1));
            due(tables(letters, LAST_LETTER[letters]), isOnlyOne, lab -> lab.matters(0, 0));
            due(tables(letters, FIRST_LETTER[letters]), isOnlyOne, lab -> lab.matters(0, letters - 1));
        }
    }
}
