import java.io.IOException;
import java.util.Set;

/** The boundary cases that the document names ahead of its promises, sentence by sentence. */
public final class TermBoundariesTest extends Boundaries {
    private static final int MOST_CALLS = 512;
    private static final Set<Object> DOCUMENTED = Set.of(INDEX, ARGUMENT, STATE, UNSUPPORTED, NO_SUCH, ARITHMETIC);

    private TermBoundariesTest() throws IOException {
    }

    public static void main(String[] args) throws IOException {
        TermBoundariesTest all = new TermBoundariesTest();
        all.under("What it is");
        all.callsOfOneObject();
        all.under("Terms");
        all.functions();
        all.spectra();
        all.trees();
        all.measures();
        all.formulas();
        all.talks();
        all.thresholds();
        all.tests();
        all.learning();
        all.games();
        all.likeness();
        all.restrictions();
        all.changesNothing();
        all.firstOfSeveral();
        all.end();
    }

    private void callsOfOneObject() {
        says("An object is used for at most 512 calls after it has been made; what later calls answer is free.");
        due(calls(MOST_CALLS - 1), 3, lab -> lab.functions());
        due(calls(MOST_CALLS - 1), 3, lab -> lab.table(4, 65535));
        due(calls(MOST_CALLS - 1), 3, lab -> lab.weigh(9));
        due(calls(MOST_CALLS - 1), false, lab -> lab.ask(0));
        due(calls(MOST_CALLS - 1), 16, lab -> lab.width(2));
        due(calls(MOST_CALLS - 1), 0x6996, lab -> lab.likeness(2));
        due(calls(MOST_CALLS - 1), true, lab -> lab.isSound());
        due(calls(MOST_CALLS - 1), ((7L * 31 + 65536 + 1) * 31 + 3 * 65536 + 0xE8) * 31 + 4 * 65536 + 0x6996,
                lab -> lab.checksum());
        refused(calls(400), INDEX, lab -> lab.letters(3));
        // Later answers are free, but nothing else than the document's exceptions may come.
        due(calls(3 * MOST_CALLS), true, lab -> isDocumented(Check.outcome(() -> lab.table(4, 1))));
        due(calls(3 * MOST_CALLS), true, lab -> isDocumented(Check.outcome(() -> lab.weigh(1))));
        due(calls(3 * MOST_CALLS), true, lab -> isDocumented(Check.outcome(() -> lab.isSound())));
    }

    private static boolean isDocumented(Object outcome) {
        return !(outcome instanceof String) || DOCUMENTED.contains(outcome);
    }

    /** So many calls, of all sorts, among them refused ones; they leave three functions, two weights and a talk. */
    private static Deed calls(int calls) {
        return lab -> {
            lab.table(1, 1);
            lab.table(3, 0xE8);
            lab.table(4, 0x6996);
            lab.weigh(1);
            lab.weigh(1);
            lab.hide(2, 0);
            for (int more = 6; more < calls; more++) {
                int call = more;
                Check.outcome(() -> oneOf(lab, call));
            }
            return calls;
        };
    }

    private static Object oneOf(YesNoLab lab, int call) {
        switch (call % 12) {
            case 0: return lab.table(5, 0);
            case 1: return lab.weigh(10);
            case 2: return lab.formula(call % 3, call % 24 < 12);
            case 3: return lab.weight(call % 4, call % 6);
            case 4: return lab.talk(call % 4, call % 17);
            case 5: return lab.left(call % 5, call % 3, 0);
            case 6: return lab.dimension(call % 9);
            case 7: return lab.ask(call % 6);
            case 8: return lab.gates(call % 3);
            case 9: return lab.far(call % 3, "lmdjz".charAt(call % 5));
            case 10: return lab.likeness(call % 4);
            default: return lab.asked();
        }
    }

    private void functions() {
        says("At most 24 functions are numbered from 0, each of 1 to 4 letters, numbered from 0.");
        due(NEW, 0, lab -> lab.table(1, 0));
        due(upTo(NEW, 23), 23, lab -> lab.table(4, 0));
        refused(upTo(NEW, 24), STATE, lab -> lab.table(4, 0));
        refused(NEW, ARGUMENT, lab -> lab.table(0, 0), lab -> lab.table(5, 0));
        due(tables(4, 0xAAAA), true, lab -> lab.matters(0, 0));
        due(tables(4, 0xFF00), true, lab -> lab.matters(0, 3));
        refused(tables(4, 0xFF00), ARGUMENT, lab -> lab.matters(0, -1), lab -> lab.matters(0, 4));

        says("An input is a number whose bit is 1 for each letter that is 1; the table of a function is a number "
                + "whose bit at each input is 1 if it says yes there.");
        for (int each = 0; each < 16; each++) {
            int input = each;
            due(tables(4, 1 << input), true, lab -> lab.says(0, input));
            due(tables(4, 65535 - (1 << input)), false, lab -> lab.says(0, input));
        }
        refused(tables(4, 65535), ARGUMENT, lab -> lab.says(0, 16), lab -> lab.says(0, -1));
        refused(NEW, ARGUMENT, lab -> lab.table(4, 65536), lab -> lab.table(4, -1));

        says("A letter matters if at some input the answer is another one with it turned over.");
        for (int each = 0; each < 16; each++) {
            int input = each;
            for (int letter = 0; letter < 4; letter++) {
                int turned = letter;
                due(tables(4, 1 << input), true, lab -> lab.matters(0, turned));
                due(tables(4, 1 << input | 1 << (input ^ 1 << turned)), false, lab -> lab.matters(0, turned));
            }
        }
    }

    private void spectra() {
        says("The sign of a set of letters, a number of bits, is at an input -1 if an odd number of them are 1 "
                + "there, otherwise 1.");
        due(tables(4, 0), 0, lab -> lab.wave(0, 15));
        due(tables(4, 1 << 15), -2, lab -> lab.wave(0, 15));
        due(tables(4, 1 << 14), 2, lab -> lab.wave(0, 15));

        says("The degree over signs is the greatest size of a set whose wave is not 0.");
        due(tables(4, 65535), 0, lab -> lab.degree(0, false));
        due(tables(4, 1), 4, lab -> lab.degree(0, false));

        says("the degree over two is the greatest size of such a set, 0 for constants.");
        for (int each = 1; each <= 4; each++) {
            int letters = each;
            due(tables(letters, 0), 0, lab -> lab.degree(0, true));
            due(tables(letters, ALWAYS[letters]), 0, lab -> lab.degree(0, true));
            due(tables(letters, LAST_LETTER[letters]), 1, lab -> lab.degree(0, true));
            due(tables(letters, 1), letters, lab -> lab.degree(0, true));
        }

        says("With a noise of a by b, a from 0 to b, the stability is the sum, over all sets, of the square of the "
                + "wave, times a to the power of the size, times b to the power of the number of letters less the "
                + "size.");
        // 0 to the power of 0 is 1: without a only the wave of no letters counts.
        due(tables(4, 0x8000), 14L * 14 * 6561, lab -> lab.stability(0, 0, 9));
        due(tables(4, 0x8000), 256L * 6561, lab -> lab.stability(0, 9, 9));
        refused(tables(4, 0x8000), ARGUMENT, lab -> lab.stability(0, -1, 9), lab -> lab.stability(0, 10, 9));
    }

    private void trees() {
        says("its leaves say yes or no.");
        due(tables(4, 65535), 1, lab -> lab.width(0));

        says("The depth of a function is the least, over all trees that tell it, of the most questions on a way; "
                + "its width the least number of leaves.");
        due(tables(4, 0), 0, lab -> lab.depth(0));
        due(tables(4, 0x6996), 4, lab -> lab.depth(0));
        due(tables(4, 0x6996), 16, lab -> lab.width(0));

        says("The first question is the lowest letter that a tree of this depth can ask first.");
        due(tables(4, 0x6996), 0, lab -> lab.question(0));
        due(tables(4, 0xFF00), 3, lab -> lab.question(0));
        refused(tables(4, 0), NO_SUCH, lab -> lab.question(0));

        says("each letter asked is counted once; the function is settled when all inputs that have the answers told "
                + "say the same.");
        due(tables(2, 8), 1, lab -> {
            lab.hide(0, 0);
            lab.ask(0);
            lab.ask(0);
            return lab.asked();
        });
        for (int input = 0; input < 4; input++) {
            int hidden = input;
            due(tables(2, 8), hidden % 2 == 0, lab -> {
                lab.hide(0, hidden);
                lab.ask(0);
                return lab.isSettled();
            });
        }
    }

    private void measures() {
        says("a set of letters is a block there if turned over together they do so, and the block number is the most "
                + "blocks of which no two have a letter in common.");
        due(tables(4, 0), 0, lab -> lab.measureAt(0, 0, 'b'));
        due(tables(4, 0x8000), 1, lab -> lab.measureAt(0, 0, 'b'));
        due(tables(4, 0x7FFF), 4, lab -> lab.measureAt(0, 15, 'b'));

        says("A certificate is a set of letters such that all inputs that have at these what the input has say the "
                + "same.");
        due(tables(4, 0), 0, lab -> lab.certificate(0, 15));
        due(tables(4, 0x8000), 15, lab -> lab.certificate(0, 15));
        due(tables(4, 0x8000), 8, lab -> lab.certificate(0, 7));

        says("Of a function, each is the greatest over all inputs.");
        for (char what : "sbc".toCharArray()) {
            due(tables(4, 0x8000), 4, lab -> lab.measure(0, what));
            due(tables(4, 0x0001), 4, lab -> lab.measure(0, what));
        }
    }

    private void formulas() {
        says("A constant has the size 0, and is no part of others.");
        for (int each = 1; each <= 3; each++) {
            int letters = each;
            for (boolean isMonotone : new boolean[] {false, true}) {
                due(tables(letters, 0), 0, lab -> lab.formula(0, isMonotone));
                due(tables(letters, ALWAYS[letters]), 0, lab -> lab.formula(0, isMonotone));
                due(tables(letters, ALWAYS[letters] - 1), letters, lab -> lab.formula(0, isMonotone));
            }
        }

        says("A monotone formula has no opposites.");
        due(tables(1, 2), 1, lab -> lab.formula(0, true));
        refused(tables(1, 1), NO_SUCH, lab -> lab.formula(0, true));
        due(tables(1, 1), 1, lab -> lab.formula(0, false));

        says("a function that is a letter, the opposite of one, or constant has 0 gates.");
        for (int each = 1; each <= 3; each++) {
            int letters = each;
            int all = ALWAYS[letters];
            int[] without = {0, all, FIRST_LETTER[letters], all - FIRST_LETTER[letters], LAST_LETTER[letters],
                    all - LAST_LETTER[letters]};
            for (int table : without) {
                due(tables(letters, table), 0, lab -> lab.gates(0));
            }
            due(tables(letters, 1), letters - 1, lab -> lab.gates(0));
        }

        says("A circuit has gates, each of two different ones of the letters and the gates ahead, with any of the "
                + "ten functions of two that hang on both;");
        for (int table = 0; table < 16; table++) {
            int two = table;
            boolean isOfBoth = two != 0 && two != 15 && two != 10 && two != 5 && two != 12 && two != 3;
            due(tables(2, two), isOfBoth ? 1 : 0, lab -> lab.gates(0));
        }
    }

    private void talks() {
        says("The letters of a set are with the one, the others with the other one, neither being none.");
        for (int each = 1; each <= 4; each++) {
            int letters = each;
            for (int part = 0; part < (1 << letters); part++) {
                int set = part;
                boolean isNone = set == 0 || set == (1 << letters) - 1;
                due(tables(letters, 0), isNone ? ARGUMENT : (Object) 0, lab -> lab.rank(0, set, true));
                due(tables(letters, 0), isNone ? ARGUMENT : (Object) 0, lab -> lab.rank(0, set, false));
                due(tables(letters, 0), isNone ? ARGUMENT : (Object) 1, lab -> lab.fooling(0, set));
                due(tables(letters, 0), isNone ? ARGUMENT : (Object) 0, lab -> lab.talk(0, set));
            }
        }

        says("A fooling set is of places of one answer, yes or no, such that for any two of them, of the places in "
                + "the row of either and the column of the other, one has another answer.");
        due(tables(2, 0), 1, lab -> lab.fooling(0, 1));
        due(tables(2, 15), 1, lab -> lab.fooling(0, 1));
        due(tables(2, 6), 2, lab -> lab.fooling(0, 1));

        says("until both know the answer.");
        due(tables(2, 15), 0, lab -> lab.talk(0, 1));
        due(tables(2, 10), 1, lab -> lab.talk(0, 1));
        due(tables(2, 10), 1, lab -> lab.talk(0, 2));
        due(tables(2, 8), 2, lab -> lab.talk(0, 1));
    }

    private void thresholds() {
        says("if it says yes just where the sum of the weights of letters that are 1 is at least the bound.");
        due(lab -> lab.weigh(9), 2, lab -> lab.bits(lab.threshold(9)));
        due(lab -> lab.weigh(9), 0, lab -> lab.bits(lab.threshold(10)));
        due(lab -> lab.weigh(9), 3, lab -> lab.bits(lab.threshold(0)));

        says("Least weights are those from -3 to 3 with the least sum of amounts, of several the first by rising "
                + "weights, letter by letter, the letter 0 first;");
        int[] wants = {3, 2, 2, 1, 5};
        for (int index = 0; index <= 4; index++) {
            int asked = index;
            // The weights 3, 2, 2 and 1 come from more than they need, the opposite letters turn their signs.
            Deed made = lab -> {
                for (int weight : new int[] {9, 6, 6, 3}) {
                    lab.weigh(weight);
                }
                lab.threshold(15);
                return lab.turn(0, 'i');
            };
            due(made, wants[index], lab -> lab.weight(0, asked));
            due(made, index < 4 ? -wants[index] : -3, lab -> lab.weight(1, asked));
        }

        says("the bound is the greatest one that fits, 13 where the function never says yes.");
        for (int each = 1; each <= 4; each++) {
            int letters = each;
            due(tables(letters, 0), 13, lab -> lab.weight(0, letters));
            due(tables(letters, ALWAYS[letters]), 0, lab -> lab.weight(0, letters));
            due(tables(letters, 1), 0, lab -> lab.weight(0, letters));
            due(tables(letters, 1 << (1 << letters) - 1), letters, lab -> lab.weight(0, letters));
        }
    }

    private void tests() {
        says("'l' sums of letters by odd and even, and the opposites of these;");
        for (int each = 1; each <= 4; each++) {
            int letters = each;
            due(tables(letters, SUM_OF_ALL[letters]), 0, lab -> lab.far(0, 'l'));
            due(tables(letters, ALWAYS[letters] - SUM_OF_ALL[letters]), 0, lab -> lab.far(0, 'l'));
            due(tables(letters, SUM_OF_ALL[letters] ^ 1), letters == 1 ? 0 : 1, lab -> lab.far(0, 'l'));
        }

        says("'m' monotone ones, in which no letter turned to 1 turns yes to no;");
        due(tables(4, 0x8000), 0, lab -> lab.far(0, 'm'));
        due(tables(4, 0x8001), 1, lab -> lab.far(0, 'm'));

        says("'d' those that are a letter;");
        for (int letter = 0; letter < 4; letter++) {
            int table = new int[] {0xAAAA, 0xCCCC, 0xF0F0, 0xFF00}[letter];
            due(tables(4, table), 0, lab -> lab.far(0, 'd'));
            due(tables(4, table ^ 1), 1, lab -> lab.far(0, 'd'));
            due(tables(4, table ^ 65535), 8, lab -> lab.far(0, 'd'));
        }
        due(tables(1, 1), 2, lab -> lab.far(0, 'd'));

        says("'j' those in which just two letters matter at most.");
        due(tables(4, 0), 0, lab -> lab.far(0, 'j'));
        due(tables(4, 0x5555), 0, lab -> lab.far(0, 'j'));
        due(tables(4, 0x0FF0), 0, lab -> lab.far(0, 'j'));
        due(tables(4, 0xA0A0), 0, lab -> lab.far(0, 'j'));
        due(tables(4, 0x8080), 2, lab -> lab.far(0, 'j'));

        says("The test of sums goes over all pairs of inputs, and passes if the function of both, letter by letter "
                + "summed by odd and even, is the sum of both answers so.");
        due(tables(4, 0x6996), 256, lab -> lab.passes(0));
        due(tables(4, 0x9669), 0, lab -> lab.passes(0));
        due(tables(4, 0x6997), 210, lab -> lab.passes(0));
    }

    private void learning() {
        says("Its dimension is the most inputs it shatters, -1 for no functions.");
        due(NEW, -1, lab -> lab.dimension(0));
        due(FULL, -1, lab -> lab.dimension(0));
        due(tables(1, 0), 0, lab -> lab.dimension(1));
        due(tables(1, 0, 3), 1, lab -> lab.dimension(3));
        due(tables(1, 0, 1, 2, 3), 2, lab -> lab.dimension(15));

        says("A set of functions, as bits by their numbers, all of as many letters,");
        refused(SOME, UNSUPPORTED, lab -> lab.dimension(3), lab -> lab.left(3, 0, 0), lab -> lab.left(1, 1, 0));
    }

    private void games() {
        says("The swings of a letter are the inputs without it with no, that say yes with it.");
        due(tables(4, 65535), 0, lab -> lab.swings(0, 0));
        due(tables(4, 0xAAAA), 8, lab -> lab.swings(0, 0));
        due(tables(4, 0x5555), 0, lab -> lab.swings(0, 0));

        says("less those in which it turns from yes to no with it.");
        due(tables(4, 0xAAAA), 24, lab -> lab.power(0, 0));
        due(tables(4, 0x5555), -24, lab -> lab.power(0, 0));
        due(tables(4, 0x6996), 0, lab -> lab.power(0, 0));
    }

    private void likeness() {
        says("Two functions of as many letters are like if one becomes the other by ordering letters anew, turning "
                + "some over, and turning the answer over.");
        due(tables(4, 0x8000, 0xFFFE), true, lab -> lab.areLike(0, 1));
        due(lab -> {
            lab.table(3, 1);
            return lab.table(4, 1);
        }, false, lab -> lab.areLike(0, 1));

        says("The likeness number is the least table of all that are like.");
        due(tables(4, 0, 65535), 0, lab -> lab.likeness(1));
        due(tables(4, 0x9669, 0x6996), 0x6996, lab -> lab.likeness(0));
    }

    private void restrictions() {
        says("To keep so many letters is to fix the others, in each way; the sum is of the depths of what is left.");
        due(tables(4, 0x6996), 0, lab -> lab.restricted(0, 0));
        due(tables(4, 0x6996), 4, lab -> lab.restricted(0, 4));

        says("each letter comes once at most.");
        due(tables(1, 1), true, lab -> lab.isList(0));
        due(tables(2, 6), false, lab -> lab.isList(0));
        due(tables(4, 0), true, lab -> lab.isList(0));
    }

    /** Each call that can be refused, in a laboratory with something of all, and in a full one. */
    private void changesNothing() {
        says("A method that throws an exception changes nothing.");
        for (Deed made : new Deed[] {NEW, SOME, FULL}) {
            refused(made, ARGUMENT, lab -> lab.table(5, 0), lab -> lab.weigh(10), lab -> lab.monotones(0));
            refused(made, INDEX,
                    lab -> lab.join(24, 0, 'a'), lab -> lab.turn(24, 'n'), lab -> lab.fix(24, 0, true),
                    lab -> lab.compose(24, 0), lab -> lab.letters(24), lab -> lab.bits(24), lab -> lab.says(24, 0),
                    lab -> lab.matters(24, 0), lab -> lab.wave(24, 0), lab -> lab.isIn(24, 0),
                    lab -> lab.degree(24, true), lab -> lab.influence(24, 0), lab -> lab.stability(24, 1, 2),
                    lab -> lab.isBent(24), lab -> lab.depth(24), lab -> lab.width(24), lab -> lab.question(24),
                    lab -> lab.hide(24, 0), lab -> lab.measure(24, 's'), lab -> lab.measureAt(24, 0, 's'),
                    lab -> lab.certificate(24, 0), lab -> lab.formula(24, true), lab -> lab.isReadOnce(24),
                    lab -> lab.gates(24), lab -> lab.rank(24, 1, true), lab -> lab.fooling(24, 1),
                    lab -> lab.talk(24, 1), lab -> lab.isThreshold(24), lab -> lab.weight(24, 0),
                    lab -> lab.distance(24, 0), lab -> lab.far(24, 'l'), lab -> lab.passes(24),
                    lab -> lab.dimension(1 << 24), lab -> lab.left(0, 24, 0), lab -> lab.isMonotone(24),
                    lab -> lab.least(24, 0), lab -> lab.swings(24, 0), lab -> lab.power(24, 0), lab -> lab.likeness(24),
                    lab -> lab.areLike(24, 0), lab -> lab.restricted(24, 0), lab -> lab.isList(24),
                    lab -> lab.meanInfluence(24), lab -> lab.meanBits(24));
        }
        for (Deed made : new Deed[] {SOME, FULL}) {
            refused(made, UNSUPPORTED,
                    lab -> lab.join(0, 1, 'a'), lab -> lab.fix(0, 0, true), lab -> lab.compose(1, 2),
                    lab -> lab.formula(3, false), lab -> lab.isReadOnce(3), lab -> lab.gates(3),
                    lab -> lab.distance(0, 1), lab -> lab.dimension(3), lab -> lab.left(1, 1, 0));
            refused(made, NO_SUCH, lab -> lab.formula(1, true), lab -> lab.weight(1, 0), lab -> lab.least(0, 1));
            refused(made, ARGUMENT,
                    lab -> lab.hide(0, 2), lab -> lab.ask(3), lab -> lab.ask(-1), lab -> lab.hide(3, 16));
        }
        refused(FULL, STATE, lab -> lab.table(1, 0), lab -> lab.threshold(1), lab -> lab.join(0, 0, 'a'),
                lab -> lab.turn(0, 'n'), lab -> lab.fix(1, 0, true), lab -> lab.compose(0, 0));
        refused(NEW, STATE, lab -> lab.ask(0), lab -> lab.isSettled());
        refused(NEW, UNSUPPORTED, lab -> lab.threshold(1));
        refused(NEW, ARITHMETIC, lab -> lab.yesShare());
    }

    /** For each call and each two of its exceptions that can come together. */
    private void firstOfSeveral() {
        says("If several exceptions apply, the one that is documented first is thrown.");
        Deed fullWithoutWeights = upTo(NEW, 24);
        Deed fullOfWeights = lab -> {
            some(lab);
            lab.weigh(0);
            return lab.weigh(0);
        };
        refused(FULL, ARGUMENT, lab -> lab.table(0, 0), lab -> lab.table(1, 4));
        refused(fullOfWeights, ARGUMENT, lab -> lab.weigh(10), lab -> lab.weigh(-10));
        refused(fullWithoutWeights, UNSUPPORTED, lab -> lab.threshold(0));

        refused(FULL, INDEX, lab -> lab.join(24, 0, 'z'), lab -> lab.join(0, 24, 'z'), lab -> lab.join(24, 0, 'a'));
        refused(FULL, ARGUMENT, lab -> lab.join(0, 1, 'z'), lab -> lab.join(0, 0, 'z'));
        refused(SOME, ARGUMENT, lab -> lab.join(0, 1, 'z'));
        refused(FULL, UNSUPPORTED, lab -> lab.join(0, 1, 'a'));

        refused(FULL, INDEX, lab -> lab.turn(24, 'z'), lab -> lab.turn(24, 'n'));
        refused(FULL, ARGUMENT, lab -> lab.turn(0, 'z'));

        refused(FULL, INDEX, lab -> lab.fix(24, 4, true), lab -> lab.fix(-1, -1, true));
        refused(FULL, ARGUMENT, lab -> lab.fix(0, 1, true), lab -> lab.fix(1, 2, true));
        refused(SOME, ARGUMENT, lab -> lab.fix(0, 1, true));
        refused(FULL, UNSUPPORTED, lab -> lab.fix(0, 0, true));

        refused(FULL, INDEX, lab -> lab.compose(24, 3), lab -> lab.compose(3, 24));
        refused(FULL, UNSUPPORTED, lab -> lab.compose(2, 1));

        refused(SOME, INDEX,
                lab -> lab.says(4, 16), lab -> lab.matters(4, 4), lab -> lab.wave(4, 16), lab -> lab.isIn(4, 16),
                lab -> lab.influence(4, 4), lab -> lab.stability(4, 1, 0), lab -> lab.hide(4, 16),
                lab -> lab.measure(4, 'z'), lab -> lab.measureAt(4, 16, 'z'), lab -> lab.certificate(4, 16),
                lab -> lab.rank(4, 0, true), lab -> lab.fooling(4, 0), lab -> lab.talk(4, 0), lab -> lab.weight(4, 5),
                lab -> lab.far(4, 'z'), lab -> lab.dimension(16 | 3), lab -> lab.left(3, 4, 1 << 16),
                lab -> lab.left(16 | 3, 0, 1 << 16), lab -> lab.least(4, -1), lab -> lab.swings(4, 4),
                lab -> lab.power(4, 4), lab -> lab.restricted(4, 5));
        refused(NEW, STATE, lab -> lab.ask(-1), lab -> lab.ask(4));
        refused(tables(4, 0x6996), UNSUPPORTED, lab -> lab.formula(0, true), lab -> lab.gates(0));
        refused(SOME, ARGUMENT, lab -> lab.weight(1, 3), lab -> lab.weight(1, -1));
        refused(SOME, UNSUPPORTED, lab -> lab.left(3, 0, 1 << 16), lab -> lab.left(1, 1, -1));
    }
}
