import java.io.IOException;

/** The boundary cases of the promises 13 to 28, sentence by sentence. */
public final class SpectraBoundariesTest extends Boundaries {
    private SpectraBoundariesTest() throws IOException {
    }

    public static void main(String[] args) throws IOException {
        SpectraBoundariesTest all = new SpectraBoundariesTest();
        all.promise13();
        all.promise14();
        all.promise15();
        all.promise16();
        all.promise17();
        all.promise18();
        all.promise19();
        all.promise20();
        all.promise21();
        all.promise22();
        all.promise23();
        all.promise24();
        all.promise25();
        all.promise26();
        all.promise27();
        all.promise28();
        all.eachSentenceIsTested(13, 28);
        all.end();
    }

    // ---- spectra

    private void promise13() {
        promise(13);
        says("Returns the wave of a set.");
        due(tables(4, 0x6996, 0x9669), 16, lab -> lab.wave(0, 15));
        due(tables(4, 0x6996, 0x9669), -16, lab -> lab.wave(1, 15));
        due(tables(4, 0x6996, 0x9669), 0, lab -> lab.wave(1, 14));
        byFunction(4, (lab, function) -> lab.wave(function, 1), (lab, function) -> lab.wave(function, -1));

        says("- `set`: the set of letters, as bits");
        for (int each = 1; each <= 4; each++) {
            int letters = each;
            int inputs = 1 << letters;
            due(tables(letters, SUM_OF_ALL[letters]), 0, lab -> lab.wave(0, 0));
            due(tables(letters, SUM_OF_ALL[letters]), inputs, lab -> lab.wave(0, inputs - 1));
            refused(tables(letters, SUM_OF_ALL[letters]), ARGUMENT, lab -> lab.wave(0, -1), lab -> lab.wave(0, inputs));
        }

        says("Returns the wave.");
        for (int each = 1; each <= 4; each++) {
            int letters = each;
            int inputs = 1 << letters;
            due(tables(letters, 0), inputs, lab -> lab.wave(0, 0));
            due(tables(letters, 1), inputs - 2, lab -> lab.wave(0, 0));
            due(tables(letters, ALWAYS[letters]), -inputs, lab -> lab.wave(0, 0));
            due(tables(letters, ALWAYS[letters]), 0, lab -> lab.wave(0, inputs - 1));
        }

        says("Throws `IllegalArgumentException` if there is no such set");
        refusedInputs((lab, function, set) -> lab.wave(function, set));
    }

    private void promise14() {
        promise(14);
        says("Returns whether the product of a set is in the sum over two; that of none is 1.");
        for (int each = 1; each <= 4; each++) {
            int letters = each;
            int all = (1 << letters) - 1;
            due(tables(letters, ALWAYS[letters]), true, lab -> lab.isIn(0, 0));
            due(tables(letters, ALWAYS[letters]), false, lab -> lab.isIn(0, all));
            due(tables(letters, 0), false, lab -> lab.isIn(0, 0));
            due(tables(letters, 0), false, lab -> lab.isIn(0, all));
        }
        byFunction(true, (lab, function) -> lab.isIn(function, 5), (lab, function) -> lab.isIn(function, -1));

        says("- `set`: the set of letters, as bits");
        for (int each = 1; each <= 4; each++) {
            int letters = each;
            int all = (1 << letters) - 1;
            int yesAtAllOnes = 1 << all;
            due(tables(letters, yesAtAllOnes), false, lab -> lab.isIn(0, 0));
            due(tables(letters, yesAtAllOnes), true, lab -> lab.isIn(0, all));
            due(tables(letters, 1), true, lab -> lab.isIn(0, 0));
            due(tables(letters, 1), true, lab -> lab.isIn(0, all));
            refused(tables(letters, 1), ARGUMENT, lab -> lab.isIn(0, -1), lab -> lab.isIn(0, all + 1));
        }

        says("Returns true if so.");
        due(tables(4, 0x6996), true, lab -> lab.isIn(0, 8));
        due(tables(4, 0x6996), false, lab -> lab.isIn(0, 9));

        says("Throws `IllegalArgumentException` if there is no such set");
        refusedInputs((lab, function, set) -> lab.isIn(function, set));
    }

    private void promise15() {
        promise(15);
        says("Returns a degree.");
        for (int each = 1; each <= 4; each++) {
            int letters = each;
            due(tables(letters, LAST_LETTER[letters]), 1, lab -> lab.degree(0, false));
            due(tables(letters, LAST_LETTER[letters]), 1, lab -> lab.degree(0, true));
        }
        byFunction(2, (lab, function) -> lab.degree(function, true), (lab, function) -> lab.degree(function, false));

        says("- `isOverTwo`: whether that over two, not over signs");
        for (int each = 1; each <= 4; each++) {
            int letters = each;
            due(tables(letters, SUM_OF_ALL[letters]), 1, lab -> lab.degree(0, true));
            due(tables(letters, SUM_OF_ALL[letters]), letters, lab -> lab.degree(0, false));
        }

        says("Returns the degree.");
        for (int each = 1; each <= 4; each++) {
            int letters = each;
            for (boolean isOverTwo : new boolean[] {false, true}) {
                due(tables(letters, 0), 0, lab -> lab.degree(0, isOverTwo));
                due(tables(letters, ALWAYS[letters]), 0, lab -> lab.degree(0, isOverTwo));
                due(tables(letters, 1), letters, lab -> lab.degree(0, isOverTwo));
            }
        }
    }

    private void promise16() {
        promise(16);
        says("Returns at how many inputs the answer turns over with a letter.");
        due(tables(4, 0x8000), 2, lab -> lab.influence(0, 3));
        due(tables(4, 0x6996), 16, lab -> lab.influence(0, 3));
        byFunction(4, (lab, function) -> lab.influence(function, 2), (lab, function) -> lab.influence(function, -1));

        Object[] all = {2, 4, 8, 16};
        byLetter(all, all, (lab, function, letter) -> lab.influence(function, letter));

        says("Returns the number of inputs.");
        for (int each = 1; each <= 4; each++) {
            int letters = each;
            due(tables(letters, 0), 0, lab -> lab.influence(0, 0));
            due(tables(letters, ALWAYS[letters]), 0, lab -> lab.influence(0, letters - 1));
            due(tables(letters, SUM_OF_ALL[letters]), 1 << letters, lab -> lab.influence(0, letters - 1));
        }
    }

    private void promise17() {
        promise(17);
        says("Returns the stability.");
        due(tables(1, 2), 4L * 3, lab -> lab.stability(0, 3, 5));
        due(tables(1, 0), 4L * 5, lab -> lab.stability(0, 3, 5));
        byFunction(192L,
                (lab, function) -> lab.stability(function, 1, 2), (lab, function) -> lab.stability(function, -1, 0));

        says("- `a`: 0 to b");
        for (int each = 1; each <= 9; each++) {
            int b = each;
            due(tables(2, 0), 16L * b * b, lab -> lab.stability(0, 0, b));
            due(tables(2, 6), 0L, lab -> lab.stability(0, 0, b));
            due(tables(2, 6), 16L * b * b, lab -> lab.stability(0, b, b));
            refused(tables(2, 6), ARGUMENT, lab -> lab.stability(0, -1, b), lab -> lab.stability(0, b + 1, b));
        }

        says("- `b`: 1 to 9");
        due(tables(4, 0), 256L, lab -> lab.stability(0, 1, 1));
        due(tables(4, 0), 256L * 6561, lab -> lab.stability(0, 9, 9));
        refused(tables(4, 0), ARGUMENT,
                lab -> lab.stability(0, 0, 0), lab -> lab.stability(0, 1, 10), lab -> lab.stability(0, 10, 10));

        says("Returns the sum.");
        for (int each = 1; each <= 4; each++) {
            int letters = each;
            long square = 1L << 2 * letters;
            long nines = letters == 1 ? 9 : letters == 2 ? 81 : letters == 3 ? 729 : 6561;
            due(tables(letters, 1), square, lab -> lab.stability(0, 1, 1));
            due(tables(letters, SUM_OF_ALL[letters]), 0L, lab -> lab.stability(0, 0, 9));
            due(tables(letters, SUM_OF_ALL[letters]), square, lab -> lab.stability(0, 1, 9));
            due(tables(letters, SUM_OF_ALL[letters]), square * nines, lab -> lab.stability(0, 9, 9));
        }

        says("Throws `IllegalArgumentException` if a number is out of range");
        for (Deed made : new Deed[] {SOME, FULL}) {
            refusedNumbers(made, ARGUMENT, beyond(0, 9), (lab, a) -> lab.stability(3, a, 9));
            refusedNumbers(made, ARGUMENT, beyond(0, 1), (lab, a) -> lab.stability(0, a, 1));
            refusedNumbers(made, ARGUMENT, beyond(1, 9), (lab, b) -> lab.stability(3, 1, b));
            refusedNumbers(made, ARGUMENT, beyond(1, 9), (lab, b) -> lab.stability(3, 0, b));
            refusedNumbers(made, ARGUMENT, beyond(1, 9), (lab, b) -> lab.stability(3, b, b));
        }
    }

    private void promise18() {
        promise(18);
        says("Returns whether all waves have the same amount.");
        due(tables(2, 8), true, lab -> lab.isBent(0));
        due(tables(2, 7), true, lab -> lab.isBent(0));
        byFunctionOf(4, 0x7888, true, (lab, function) -> lab.isBent(function), (lab, function) -> lab.isBent(function));

        says("Returns true if so.");
        for (int each = 1; each <= 4; each++) {
            int letters = each;
            due(tables(letters, 0), false, lab -> lab.isBent(0));
            due(tables(letters, ALWAYS[letters]), false, lab -> lab.isBent(0));
            due(tables(letters, SUM_OF_ALL[letters]), false, lab -> lab.isBent(0));
            due(tables(letters, 1), letters == 2, lab -> lab.isBent(0));
        }
        due(tables(4, 0x7888 ^ 0x8000), false, lab -> lab.isBent(0));
    }

    // ---- trees

    private void promise19() {
        promise(19);
        says("Returns the depth of a function.");
        due(tables(4, 0x8000), 4, lab -> lab.depth(0));
        due(tables(4, 0xFF00), 1, lab -> lab.depth(0));
        byFunction(2, (lab, function) -> lab.depth(function), (lab, function) -> lab.depth(function));

        says("Returns the number of questions.");
        for (int each = 1; each <= 4; each++) {
            int letters = each;
            due(tables(letters, 0), 0, lab -> lab.depth(0));
            due(tables(letters, ALWAYS[letters]), 0, lab -> lab.depth(0));
            due(tables(letters, SUM_OF_ALL[letters]), letters, lab -> lab.depth(0));
        }
    }

    private void promise20() {
        promise(20);
        says("Returns the width of a function.");
        due(tables(4, 0x8000), 5, lab -> lab.width(0));
        due(tables(4, 0xFF00), 2, lab -> lab.width(0));
        byFunction(4, (lab, function) -> lab.width(function), (lab, function) -> lab.width(function));

        says("Returns the number of leaves.");
        for (int each = 1; each <= 4; each++) {
            int letters = each;
            due(tables(letters, 0), 1, lab -> lab.width(0));
            due(tables(letters, ALWAYS[letters]), 1, lab -> lab.width(0));
            due(tables(letters, SUM_OF_ALL[letters]), 1 << letters, lab -> lab.width(0));
        }
    }

    private void promise21() {
        promise(21);
        says("Returns the first question.");
        due(tables(3, 0xCA), 2, lab -> lab.question(0));
        due(tables(3, 0xE8), 0, lab -> lab.question(0));
        byFunction(2, (lab, function) -> lab.question(function), (lab, function) -> lab.question(function));

        says("Returns the letter.");
        for (int each = 1; each <= 4; each++) {
            int letters = each;
            due(tables(letters, FIRST_LETTER[letters]), 0, lab -> lab.question(0));
            due(tables(letters, LAST_LETTER[letters]), letters - 1, lab -> lab.question(0));
            due(tables(letters, SUM_OF_ALL[letters]), 0, lab -> lab.question(0));
        }

        says("Throws `NoSuchElementException` if the function is constant");
        for (int each = 1; each <= 4; each++) {
            int letters = each;
            refused(tables(letters, 0), NO_SUCH, lab -> lab.question(0));
            refused(tables(letters, ALWAYS[letters]), NO_SUCH, lab -> lab.question(0));
            due(tables(letters, 1), 0, lab -> lab.question(0));
            due(tables(letters, ALWAYS[letters] - 1), 0, lab -> lab.question(0));
        }
        refused(upTo(tables(4, 0, 65535), 24), NO_SUCH, lab -> lab.question(0), lab -> lab.question(1));
    }

    private void promise22() {
        promise(22);
        says("Hides an input for a talk about a function, in place of one before.");
        due(SOME, 0, lab -> {
            lab.hide(3, 0);
            return lab.asked();
        });
        due(SOME, false, lab -> {
            lab.hide(3, 11);
            return lab.ask(2);
        });
        due(SOME, true, lab -> {
            lab.hide(3, 11);
            return lab.ask(3);
        });
        refused(lab -> {
            some(lab);
            return lab.hide(0, 1);
        }, ARGUMENT, lab -> lab.ask(1), lab -> lab.ask(2));
        byFunction(2, (lab, function) -> lab.hide(function, 7), (lab, function) -> lab.hide(function, 16));
        noTalkComesOfRefusal();

        says("- `input`: the input");
        for (int each = 1; each <= 4; each++) {
            int letters = each;
            int last = (1 << letters) - 1;
            for (int input : new int[] {0, last}) {
                due(tables(letters, SUM_OF_ALL[letters]), letters, lab -> lab.hide(0, input));
                due(tables(letters, SUM_OF_ALL[letters]), input != 0, lab -> {
                    lab.hide(0, input);
                    return lab.ask(letters - 1);
                });
            }
            refused(tables(letters, SUM_OF_ALL[letters]), ARGUMENT,
                    lab -> lab.hide(0, -1), lab -> lab.hide(0, last + 1));
        }

        says("Returns the depth of the function.");
        for (int each = 1; each <= 4; each++) {
            int letters = each;
            due(tables(letters, 0), 0, lab -> lab.hide(0, 0));
            due(tables(letters, ALWAYS[letters]), 0, lab -> lab.hide(0, 1));
            due(tables(letters, 1), letters, lab -> lab.hide(0, 1));
        }

        says("Throws `IllegalArgumentException` if the function has no such input");
        refusedInputs((lab, function, input) -> lab.hide(function, input));
    }

    /** Where nothing is hidden, nothing is after a refusal. */
    private void noTalkComesOfRefusal() {
        Deed made = tables(3, 0xCA);
        refused(made, INDEX, lab -> lab.hide(1, 0), lab -> lab.hide(-1, 0));
        refused(made, ARGUMENT, lab -> lab.hide(0, 8), lab -> lab.hide(0, -1));
        due(made, STATE, lab -> {
            Check.outcome(() -> lab.hide(0, 8));
            return lab.ask(0);
        });
    }

    private void promise23() {
        promise(23);
        says("Asks for a letter of the hidden input.");
        due(SOME, true, lab -> lab.ask(2));
        due(SOME, true, lab -> lab.ask(0));
        due(SOME, false, lab -> lab.ask(1));

        says("- `letter`: the letter, from 0");
        for (int each = 1; each <= 4; each++) {
            int letters = each;
            int input = 1 << (letters - 1);
            due(hidden(letters, input), letters == 1, lab -> lab.ask(0));
            due(hidden(letters, input), true, lab -> lab.ask(letters - 1));
            refused(hidden(letters, input), ARGUMENT, lab -> lab.ask(-1), lab -> lab.ask(letters));
        }

        says("Returns the answer.");
        for (int letter = 0; letter < 4; letter++) {
            int asked = letter;
            due(hidden(4, 0), false, lab -> lab.ask(asked));
            due(hidden(4, 15), true, lab -> lab.ask(asked));
            due(hidden(4, 1 << letter), true, lab -> lab.ask(asked));
            due(hidden(4, 15 - (1 << letter)), false, lab -> lab.ask(asked));
        }

        says("Throws `IllegalStateException` if nothing is hidden");
        refused(NEW, STATE, lab -> lab.ask(0));
        refusedNumbers(NEW, STATE, beyond(0, 3), (lab, letter) -> lab.ask(letter));
        refusedNumbers(upTo(NEW, 24), STATE, new int[] {0, 3, 4, -1}, (lab, letter) -> lab.ask(letter));
        due(hidden(1, 0), false, lab -> lab.ask(0));

        says("Throws `IllegalArgumentException` if the function has no such letter");
        for (int each = 1; each <= 4; each++) {
            int letters = each;
            Deed made = lab -> {
                hidden(letters, 1).on(lab);
                return lab.ask(letters - 1);
            };
            refusedNumbers(made, ARGUMENT, beyond(0, letters - 1), (lab, letter) -> lab.ask(letter));
            refusedNumbers(upTo(made, 24), ARGUMENT, beyond(0, letters - 1), (lab, letter) -> lab.ask(letter));
        }
    }

    /** A talk about the sum of all letters, with this input; nothing is asked. */
    private static Deed hidden(int letters, int input) {
        return lab -> {
            lab.table(letters, SUM_OF_ALL[letters]);
            return lab.hide(0, input);
        };
    }

    private void promise24() {
        promise(24);
        says("Returns how many letters were asked.");
        due(hidden(4, 5), 0, lab -> lab.asked());
        due(hidden(4, 5), 1, lab -> {
            lab.ask(3);
            lab.ask(3);
            return lab.asked();
        });
        due(hidden(4, 5), 1, lab -> {
            lab.ask(3);
            Check.outcome(() -> lab.ask(4));
            Check.outcome(() -> lab.ask(-1));
            return lab.asked();
        });

        says("Returns the number of letters, 0 without a talk.");
        due(NEW, 0, lab -> lab.asked());
        due(tables(4, 0x6996), 0, lab -> lab.asked());
        due(NEW, 0, lab -> {
            Check.outcome(() -> lab.ask(0));
            return lab.asked();
        });
        for (int each = 1; each <= 4; each++) {
            int letters = each;
            Deed all = lab -> {
                hidden(letters, 1).on(lab);
                for (int letter = letters - 1; letter >= 0; letter--) {
                    lab.ask(letter);
                }
                return lab.ask(0);
            };
            due(all, letters, lab -> lab.asked());
            due(all, 0, lab -> {
                lab.hide(0, 0);
                return lab.asked();
            });
        }
    }

    private void promise25() {
        promise(25);
        says("Returns whether the function is settled.");
        for (int each = 1; each <= 4; each++) {
            int letters = each;
            Deed allButOne = lab -> {
                hidden(letters, 1).on(lab);
                for (int letter = 1; letter < letters; letter++) {
                    lab.ask(letter);
                }
                return lab.asked();
            };
            due(allButOne, false, lab -> lab.isSettled());
            due(allButOne, true, lab -> {
                lab.ask(0);
                return lab.isSettled();
            });
        }

        says("Returns true if so.");
        for (int each = 1; each <= 4; each++) {
            int letters = each;
            for (int constant : new int[] {0, ALWAYS[letters]}) {
                due(tables(letters, constant), true, lab -> {
                    lab.hide(0, 1);
                    return lab.isSettled();
                });
            }
            due(hidden(letters, 0), false, lab -> lab.isSettled());
        }

        says("Throws `IllegalStateException` if nothing is hidden");
        refused(NEW, STATE, lab -> lab.isSettled());
        refused(upTo(NEW, 24), STATE, lab -> lab.isSettled());
        due(SOME, false, lab -> lab.isSettled());
    }

    // ---- measures

    private void promise26() {
        promise(26);
        says("Returns a measure of a function.");
        due(tables(4, 0x8000), 4, lab -> lab.measure(0, 's'));
        byFunction(2, (lab, function) -> lab.measure(function, 'b'), (lab, function) -> lab.measure(function, 'z'));

        says("- `what`: 's' the sensitivity, 'b' the block number, 'c' the least size of a certificate");
        due(tables(4, 0x1BD8), 2, lab -> lab.measure(0, 's'));
        due(tables(4, 0x1BD8), 3, lab -> lab.measure(0, 'b'));
        due(tables(4, 0x1BD8), 3, lab -> lab.measure(0, 'c'));
        signs(tables(4, 0x1BD8), "sbc", (lab, what) -> lab.measure(0, what));

        says("Returns the number.");
        for (int each = 1; each <= 4; each++) {
            int letters = each;
            for (char what : "sbc".toCharArray()) {
                due(tables(letters, 0), 0, lab -> lab.measure(0, what));
                due(tables(letters, ALWAYS[letters]), 0, lab -> lab.measure(0, what));
                due(tables(letters, LAST_LETTER[letters]), 1, lab -> lab.measure(0, what));
                due(tables(letters, SUM_OF_ALL[letters]), letters, lab -> lab.measure(0, what));
            }
        }

        says("Throws `IllegalArgumentException` if there is no such measure");
        signs(SOME, "sbc", (lab, what) -> lab.measure(3, what));
        signs(FULL, "sbc", (lab, what) -> lab.measure(0, what));
    }

    private void promise27() {
        promise(27);
        says("Returns a measure at an input.");
        due(tables(4, 0x8000), 4, lab -> lab.measureAt(0, 15, 's'));
        due(tables(4, 0x8000), 0, lab -> lab.measureAt(0, 0, 's'));
        byFunction(1,
                (lab, function) -> lab.measureAt(function, 0, 's'),
                (lab, function) -> lab.measureAt(function, -1, 'z'));

        says("- `input`: the input");
        for (int each = 1; each <= 4; each++) {
            int letters = each;
            int last = (1 << letters) - 1;
            for (char what : "sbc".toCharArray()) {
                due(tables(letters, 1), letters, lab -> lab.measureAt(0, 0, what));
                due(tables(letters, 1 << last), letters, lab -> lab.measureAt(0, last, what));
                refused(tables(letters, 1), ARGUMENT,
                        lab -> lab.measureAt(0, -1, what), lab -> lab.measureAt(0, last + 1, what));
            }
        }

        says("- `what`: 's', 'b' or 'c'");
        due(tables(4, 0x004D), 1, lab -> lab.measureAt(0, 2, 's'));
        due(tables(4, 0x004D), 2, lab -> lab.measureAt(0, 2, 'b'));
        due(tables(4, 0x004D), 3, lab -> lab.measureAt(0, 2, 'c'));
        signs(tables(4, 0x004D), "sbc", (lab, what) -> lab.measureAt(0, 2, what));

        says("Returns the number.");
        for (int each = 1; each <= 4; each++) {
            int letters = each;
            int last = (1 << letters) - 1;
            for (char what : "sbc".toCharArray()) {
                due(tables(letters, 0), 0, lab -> lab.measureAt(0, 0, what));
                due(tables(letters, ALWAYS[letters]), 0, lab -> lab.measureAt(0, last, what));
                due(tables(letters, SUM_OF_ALL[letters]), letters, lab -> lab.measureAt(0, last, what));
            }
        }

        says("Throws `IllegalArgumentException` if there is no such input or measure");
        for (char what : "sbcz".toCharArray()) {
            refusedInputs((lab, function, input) -> lab.measureAt(function, input, what));
        }
        signs(SOME, "sbc", (lab, what) -> lab.measureAt(3, 15, what));
        signs(FULL, "sbc", (lab, what) -> lab.measureAt(0, 0, what));
    }

    private void promise28() {
        promise(28);
        says("Returns a certificate of the least size, of several the lowest number.");
        due(tables(3, 0xE8), 3, lab -> lab.certificate(0, 7));
        due(tables(3, 0xE8), 6, lab -> lab.certificate(0, 6));
        due(tables(4, 0x7FFF), 1, lab -> lab.certificate(0, 0));
        due(tables(4, 0x7FFF), 8, lab -> lab.certificate(0, 7));
        byFunction(3,
                (lab, function) -> lab.certificate(function, 0), (lab, function) -> lab.certificate(function, -1));

        says("- `input`: the input");
        for (int each = 1; each <= 4; each++) {
            int letters = each;
            int last = (1 << letters) - 1;
            due(tables(letters, 1), last, lab -> lab.certificate(0, 0));
            due(tables(letters, 1 << last), last, lab -> lab.certificate(0, last));
            refused(tables(letters, 1), ARGUMENT, lab -> lab.certificate(0, -1), lab -> lab.certificate(0, last + 1));
        }

        says("Returns the set, as bits.");
        for (int each = 1; each <= 4; each++) {
            int letters = each;
            int last = (1 << letters) - 1;
            due(tables(letters, 0), 0, lab -> lab.certificate(0, last));
            due(tables(letters, ALWAYS[letters]), 0, lab -> lab.certificate(0, 0));
            due(tables(letters, LAST_LETTER[letters]), 1 << (letters - 1), lab -> lab.certificate(0, last));
            due(tables(letters, SUM_OF_ALL[letters]), last, lab -> lab.certificate(0, 0));
        }

        says("Throws `IllegalArgumentException` if the function has no such input");
        refusedInputs((lab, function, input) -> lab.certificate(function, input));
    }
}
