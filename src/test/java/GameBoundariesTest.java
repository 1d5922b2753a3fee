import java.io.IOException;
import java.math.BigInteger;

/** The boundary cases of the promises 40 to 56, sentence by sentence. */
public final class GameBoundariesTest extends Boundaries {
    private static final int ALL_FUNCTIONS = (1 << MOST_FUNCTIONS) - 1;

    private GameBoundariesTest() throws IOException {
    }

    public static void main(String[] args) throws IOException {
        GameBoundariesTest all = new GameBoundariesTest();
        all.promise40();
        all.promise41();
        all.promise42();
        all.promise43();
        all.promise44();
        all.promise45();
        all.promise46();
        all.promise47();
        all.promise48();
        all.promise49();
        all.promise50();
        all.promise51();
        all.promise52();
        all.promise53();
        all.promise54();
        all.promise55();
        all.promise56();
        all.eachSentenceIsTested(40, 56);
        all.end();
    }

    // ---- learning

    /** All 16 ways to answer at the four inputs from this one on, and constants up to so many functions. */
    private static Deed allWays(int firstInput, int functions) {
        return lab -> {
            for (int way = 0; way < 16; way++) {
                lab.table(4, way << firstInput);
            }
            for (int more = 16; more < functions; more++) {
                lab.table(4, 0);
            }
            return functions;
        };
    }

    private void promise40() {
        promise(40);
        says("Returns the dimension of a set of functions.");
        due(tables(1, 0, 1, 2, 3), 2, lab -> lab.dimension(15));
        due(tables(1, 0, 1, 2, 3), 1, lab -> lab.dimension(7));
        due(tables(1, 3, 2, 1, 0), 2, lab -> lab.dimension(15));
        due(tables(1, 3, 0), 1, lab -> lab.dimension(3));

        says("- `set`: the functions, as bits");
        due(NEW, -1, lab -> lab.dimension(0));
        due(tables(1, 0), 0, lab -> lab.dimension(1));
        due(allWays(12, 24), 4, lab -> lab.dimension(ALL_FUNCTIONS));
        due(allWays(12, 24), 0, lab -> lab.dimension(1 << 23));
        refused(allWays(12, 24), INDEX, lab -> lab.dimension(1 << 24), lab -> lab.dimension(ALL_FUNCTIONS + 1));

        says("Returns the number of inputs.");
        due(FULL, -1, lab -> lab.dimension(0));
        for (int functions = 1; functions <= 24; functions++) {
            // One function shatters no input, two that differ one, and so on.
            int most = functions < 2 ? 0 : functions < 4 ? 1 : functions < 8 ? 2 : functions < 16 ? 3 : 4;
            int set = (1 << functions) - 1;
            due(allWays(0, 24), most, lab -> lab.dimension(set));
            due(allWays(12, 24), most, lab -> lab.dimension(set));
        }
        due(tables(4, 0, 0, 0), 0, lab -> lab.dimension(7));

        says("Throws `IndexOutOfBoundsException` if there is another one among them");
        refusedNumbers(NEW, INDEX, new int[] {1, 2, 3, 1 << 24, 1 << 30, Integer.MIN_VALUE, -1, Integer.MAX_VALUE},
                (lab, set) -> lab.dimension(set));
        for (int functions = 1; functions <= 24; functions++) {
            int[] others = beyond(0, (1 << functions) - 1);
            refusedNumbers(upTo(tables(4, 1), functions), INDEX, others, (lab, set) -> lab.dimension(set));
        }
        refusedNumbers(SOME, INDEX, beyond(0, 15), (lab, set) -> lab.dimension(set));
        for (int function = 4; function < 32; function++) {
            int other = 1 << function;
            refused(SOME, INDEX, lab -> lab.dimension(other), lab -> lab.dimension(3 | other));
        }

        says("Throws `UnsupportedOperationException` if they have unlike numbers of letters");
        for (int set = 1; set < 16; set++) {
            int functions = set;
            if (Integer.bitCount(set) == 1) {
                due(SOME, 0, lab -> lab.dimension(functions));
            } else {
                refused(SOME, UNSUPPORTED, lab -> lab.dimension(functions));
                refused(FULL, UNSUPPORTED, lab -> lab.dimension(functions));
            }
        }
        refused(FULL, UNSUPPORTED, lab -> lab.dimension(1 | 1 << 23), lab -> lab.dimension(ALL_FUNCTIONS));
    }

    private void promise41() {
        promise(41);
        says("Returns which functions of a set say on some inputs what a function says.");
        due(tables(2, 6, 9, 7), 0b101, lab -> lab.left(7, 0, 0b1110));
        due(tables(2, 6, 9, 7), 0b001, lab -> lab.left(7, 0, 0b1111));
        due(tables(2, 6, 9, 7), 0b100, lab -> lab.left(6, 0, 0b1110));

        says("- `set`: the functions, as bits");
        due(SOME, 0, lab -> lab.left(0, 0, 0));
        due(SOME, 1, lab -> lab.left(1, 0, 3));
        due(allWays(12, 24), ALL_FUNCTIONS, lab -> lab.left(ALL_FUNCTIONS, 0, 0));
        due(allWays(12, 24), 1 << 23, lab -> lab.left(1 << 23, 0, 65535));
        refused(allWays(12, 24), INDEX, lab -> lab.left(1 << 24, 0, 0), lab -> lab.left(-1, 0, 0));

        says("- `function`: the number of the function");
        due(tables(4, 0x8000), 1, lab -> lab.left(1, 0, 65535));
        due(upTo(tables(4, 0x8000), 23), 1, lab -> {
            lab.table(4, 0x8000);
            return lab.left(ALL_FUNCTIONS, 23, 65535) & 1;
        });
        refused(allWays(12, 24), INDEX, lab -> lab.left(1, 24, 0), lab -> lab.left(1, -1, 0));

        says("- `inputs`: inputs, as bits");
        for (int each = 1; each <= 4; each++) {
            int letters = each;
            int all = ALWAYS[letters];
            due(tables(letters, 0, 1), 3, lab -> lab.left(3, 0, 0));
            due(tables(letters, 0, 1), 3, lab -> lab.left(3, 0, all - 1));
            due(tables(letters, 0, 1), 1, lab -> lab.left(3, 0, all));
            due(tables(letters, 0, 1), 2, lab -> lab.left(3, 1, all));
            refused(tables(letters, 0, 1), ARGUMENT, lab -> lab.left(3, 0, -1), lab -> lab.left(3, 0, all + 1));
        }

        says("Returns these functions, as bits.");
        due(tables(4, 0, 65535), 0, lab -> lab.left(2, 0, 1));
        due(tables(4, 0, 65535), 0, lab -> lab.left(1, 1, 0x8000));
        due(tables(4, 0, 65535), 0, lab -> lab.left(0, 1, 65535));
        due(allWays(0, 24), ALL_FUNCTIONS, lab -> lab.left(ALL_FUNCTIONS, 23, 0xFFF0));
        due(allWays(0, 24), ALL_FUNCTIONS - 0xFFFE, lab -> lab.left(ALL_FUNCTIONS, 23, 0xFFFF));

        says("Throws `IndexOutOfBoundsException` if there is no such function, or another one in the set");
        refused(NEW, INDEX, lab -> lab.left(0, 0, 0), lab -> lab.left(1, 0, 0), lab -> lab.left(-1, -1, -1));
        for (Deed made : new Deed[] {SOME, FULL}) {
            int functions = made == SOME ? 4 : MOST_FUNCTIONS;
            int[] others = beyond(0, functions - 1);
            refusedNumbers(made, INDEX, others, (lab, function) -> lab.left(8, function, 0));
            refusedNumbers(made, INDEX, others, (lab, function) -> lab.left(0, function, 0));
            refusedNumbers(made, INDEX, others, (lab, function) -> lab.left(3, function, -1));
            int[] otherSets = beyond(0, (1 << functions) - 1);
            refusedNumbers(made, INDEX, otherSets, (lab, set) -> lab.left(set, 3, 0));
            refusedNumbers(made, INDEX, otherSets, (lab, set) -> lab.left(set, 0, -1));
            for (int function = functions; function < 32; function++) {
                int other = 1 << function;
                refused(made, INDEX, lab -> lab.left(other, 0, 0), lab -> lab.left(3 | other, 0, -1));
            }
        }

        says("Throws `UnsupportedOperationException` if they have unlike numbers of letters");
        for (int each = 0; each < 4; each++) {
            int function = each;
            int inputs = ALWAYS[each + 1];
            due(SOME, 1 << function, lab -> lab.left(1 << function, function, inputs));
            due(FULL, 0, lab -> lab.left(0, function, inputs));
            for (int other = 0; other < 4; other++) {
                int set = 1 << other;
                if (other != each) {
                    refused(SOME, UNSUPPORTED, lab -> lab.left(set, function, 0), lab -> lab.left(set, function, -1),
                            lab -> lab.left(set | 1 << function, function, 0), lab -> lab.left(15, function, 1 << 16));
                    refused(FULL, UNSUPPORTED, lab -> lab.left(set, function, 0), lab -> lab.left(set, function, -1));
                }
            }
        }

        says("Throws `IllegalArgumentException` if there is another input");
        for (int each = 0; each < 4; each++) {
            int function = each;
            int[] others = beyond(0, ALWAYS[each + 1]);
            refusedNumbers(SOME, ARGUMENT, others, (lab, inputs) -> lab.left(1 << function, function, inputs));
            refusedNumbers(SOME, ARGUMENT, others, (lab, inputs) -> lab.left(0, function, inputs));
            refusedNumbers(FULL, ARGUMENT, others, (lab, inputs) -> lab.left(1 << function, function, inputs));
        }
    }

    private void promise42() {
        promise(42);
        says("Returns whether a function is monotone.");
        due(tables(4, 0x8000), true, lab -> lab.isMonotone(0));
        due(tables(4, 0x7FFF), false, lab -> lab.isMonotone(0));
        byFunction(false, (lab, function) -> lab.isMonotone(function), (lab, function) -> lab.isMonotone(function));

        says("Returns true if so.");
        for (int each = 1; each <= 4; each++) {
            int letters = each;
            due(tables(letters, 0), true, lab -> lab.isMonotone(0));
            due(tables(letters, ALWAYS[letters]), true, lab -> lab.isMonotone(0));
            due(tables(letters, ALWAYS[letters] - 1), true, lab -> lab.isMonotone(0));
            due(tables(letters, 1), false, lab -> lab.isMonotone(0));
            due(tables(letters, FIRST_LETTER[letters]), true, lab -> lab.isMonotone(0));
            due(tables(letters, ALWAYS[letters] - FIRST_LETTER[letters]), false, lab -> lab.isMonotone(0));
            due(tables(letters, LAST_LETTER[letters]), true, lab -> lab.isMonotone(0));
            due(tables(letters, ALWAYS[letters] - LAST_LETTER[letters]), false, lab -> lab.isMonotone(0));
        }
    }

    private void promise43() {
        promise(43);
        says("Returns a least true input: none with fewer of its letters says yes.");
        due(tables(4, 0x8000), 15, lab -> lab.least(0, 0));
        due(tables(4, 0x8001), 0, lab -> lab.least(0, 0));
        refused(tables(4, 0x8001), NO_SUCH, lab -> lab.least(0, 1));
        byFunction(6, (lab, function) -> lab.least(function, 1), (lab, function) -> lab.least(function, 99));

        says("- `index`: the index, from 0");
        // Yes just where two letters or more are 1: six pairs.
        int[] pairs = {3, 5, 6, 9, 10, 12};
        for (int index = 0; index < 6; index++) {
            int asked = index;
            due(tables(4, 0xFEE8), pairs[index], lab -> lab.least(0, asked));
        }
        refused(tables(4, 0xFEE8), NO_SUCH, lab -> lab.least(0, 6), lab -> lab.least(0, -1));

        says("Returns the input, by rising numbers.");
        for (int each = 1; each <= 4; each++) {
            int letters = each;
            int last = (1 << letters) - 1;
            due(tables(letters, ALWAYS[letters]), 0, lab -> lab.least(0, 0));
            due(tables(letters, 1 << last), last, lab -> lab.least(0, 0));
            due(tables(letters, ALWAYS[letters] - 1), 1, lab -> lab.least(0, 0));
            due(tables(letters, ALWAYS[letters] - 1), 1 << (letters - 1), lab -> lab.least(0, letters - 1));
        }

        says("Throws `NoSuchElementException` if there are not so many");
        for (int each = 1; each <= 4; each++) {
            int letters = each;
            refused(tables(letters, 0), NO_SUCH, lab -> lab.least(0, 0));
            refused(tables(letters, ALWAYS[letters]), NO_SUCH, lab -> lab.least(0, 1));
            refused(tables(letters, ALWAYS[letters] - 1), NO_SUCH, lab -> lab.least(0, letters));
        }
        refusedNumbers(SOME, NO_SUCH, beyond(0, 0), (lab, index) -> lab.least(0, index));
        refusedNumbers(SOME, NO_SUCH, beyond(0, 1), (lab, index) -> lab.least(3, index));
        refusedNumbers(FULL, NO_SUCH, beyond(0, 1), (lab, index) -> lab.least(3, index));
    }

    private void promise44() {
        promise(44);
        says("Returns how many monotone functions there are.");
        due(NEW, 6, lab -> lab.monotones(2));
        due(FULL, 20, lab -> lab.monotones(3));

        says("- `letters`: 1 to 4");
        due(NEW, 3, lab -> lab.monotones(1));
        due(NEW, 168, lab -> lab.monotones(4));
        refused(NEW, ARGUMENT, lab -> lab.monotones(0), lab -> lab.monotones(5));

        says("Returns the number of functions.");
        for (int letters = 1; letters <= 3; letters++) {
            int each = letters;
            int found = 0;
            for (int table = 0; table <= ALWAYS[letters]; table++) {
                YesNoLab lab = new YesNoLab();
                lab.table(letters, table);
                found += lab.isMonotone(0) ? 1 : 0;
            }
            due(NEW, found, lab -> lab.monotones(each));
        }

        says("Throws `IllegalArgumentException` if it is out of range");
        for (Deed made : new Deed[] {NEW, SOME, FULL}) {
            refusedNumbers(made, ARGUMENT, beyond(1, 4), (lab, letters) -> lab.monotones(letters));
        }
    }

    // ---- games

    private void promise45() {
        promise(45);
        says("Returns how many swings a letter has.");
        due(tables(4, 0x8000), 1, lab -> lab.swings(0, 3));
        due(tables(4, 0xFFFE), 1, lab -> lab.swings(0, 3));
        byFunction(1, (lab, function) -> lab.swings(function, 2), (lab, function) -> lab.swings(function, -1));

        Object[] half = {1, 2, 4, 8};
        byLetter(half, half, (lab, function, letter) -> lab.swings(function, letter));

        says("Returns the number of inputs.");
        for (int each = 1; each <= 4; each++) {
            int letters = each;
            due(tables(letters, 0), 0, lab -> lab.swings(0, 0));
            due(tables(letters, ALWAYS[letters]), 0, lab -> lab.swings(0, letters - 1));
            due(tables(letters, ALWAYS[letters] - LAST_LETTER[letters]), 0, lab -> lab.swings(0, letters - 1));
            due(tables(letters, LAST_LETTER[letters]), 1 << (letters - 1), lab -> lab.swings(0, letters - 1));
        }
    }

    private void promise46() {
        promise(46);
        says("Returns the power of a letter.");
        due(tables(4, 0x8000), 6, lab -> lab.power(0, 3));
        due(tables(4, 0x7FFF), -6, lab -> lab.power(0, 3));
        byFunction(3, (lab, function) -> lab.power(function, 0), (lab, function) -> lab.power(function, -1));

        Object[] orders = {1, 2, 6, 24};
        byLetter(orders, orders, (lab, function, letter) -> lab.power(function, letter));

        says("Returns the number of orders.");
        int[] allOrders = {1, 1, 2, 6, 24};
        for (int each = 1; each <= 4; each++) {
            int letters = each;
            due(tables(letters, 0), 0, lab -> lab.power(0, 0));
            due(tables(letters, ALWAYS[letters]), 0, lab -> lab.power(0, letters - 1));
            due(tables(letters, LAST_LETTER[letters]), allOrders[letters], lab -> lab.power(0, letters - 1));
            due(tables(letters, ALWAYS[letters] - LAST_LETTER[letters]), -allOrders[letters],
                    lab -> lab.power(0, letters - 1));
        }
    }

    // ---- likeness, restrictions

    private void promise47() {
        promise(47);
        says("Returns the likeness number.");
        due(tables(4, 0x8000, 0xFFFE), 1, lab -> lab.likeness(0));
        due(tables(4, 0x8000, 0xFFFE), 1, lab -> lab.likeness(1));
        byFunction(27, (lab, function) -> lab.likeness(function), (lab, function) -> lab.likeness(function));

        says("Returns the table.");
        int[] leastLetter = {0, 1, 3, 15, 255};
        for (int each = 1; each <= 4; each++) {
            int letters = each;
            due(tables(letters, 0), 0, lab -> lab.likeness(0));
            due(tables(letters, ALWAYS[letters]), 0, lab -> lab.likeness(0));
            due(tables(letters, 1), 1, lab -> lab.likeness(0));
            due(tables(letters, FIRST_LETTER[letters]), leastLetter[letters], lab -> lab.likeness(0));
            due(tables(letters, LAST_LETTER[letters]), leastLetter[letters], lab -> lab.likeness(0));
        }
        due(tables(4, 0x6996), 0x6996, lab -> lab.likeness(0));
        due(tables(4, 0x9669), 0x6996, lab -> lab.likeness(0));
    }

    private void promise48() {
        promise(48);
        says("Returns whether two functions are like.");
        due(tables(4, 0x0001, 0x8000, 0xFFFE), true, lab -> lab.areLike(1, 2));
        due(tables(4, 0x0001, 0x8000, 0xFFFC), false, lab -> lab.areLike(1, 2));
        byTwo(3, 0xCA, true,
                (lab, one, other) -> lab.areLike(one, other), (lab, one, other) -> lab.areLike(one, other));

        says("Returns true if so, false with unlike numbers of letters.");
        due(tables(4, 0, 65535), true, lab -> lab.areLike(0, 1));
        due(tables(4, 0, 1), false, lab -> lab.areLike(0, 1));
        due(tables(4, 0, 1), false, lab -> lab.areLike(1, 0));
        due(tables(1, 1, 0), false, lab -> lab.areLike(0, 1));
        for (int one = 1; one <= 4; one++) {
            for (int other = 1; other <= 4; other++) {
                int letters = one;
                int others = other;
                for (int table = 0; table <= 1; table++) {
                    int same = table;
                    due(NEW, letters == others, lab -> {
                        lab.table(letters, same);
                        lab.table(others, same);
                        return lab.areLike(0, 1);
                    });
                }
            }
        }
    }

    private void promise49() {
        promise(49);
        says("Returns the sum of depths by all restrictions that keep so many letters.");
        due(tables(4, 0x8000), 4, lab -> lab.restricted(0, 1));
        due(tables(4, 0xFF00), 8, lab -> lab.restricted(0, 1));
        byFunction(2, (lab, function) -> lab.restricted(function, 3), (lab, function) -> lab.restricted(function, 4));

        says("- `keeps`: how many letters are kept, 0 to all");
        for (int each = 1; each <= 4; each++) {
            int letters = each;
            due(tables(letters, SUM_OF_ALL[letters]), 0, lab -> lab.restricted(0, 0));
            due(tables(letters, SUM_OF_ALL[letters]), letters, lab -> lab.restricted(0, letters));
            refused(tables(letters, SUM_OF_ALL[letters]), ARGUMENT,
                    lab -> lab.restricted(0, -1), lab -> lab.restricted(0, letters + 1));
        }

        says("Returns the sum.");
        int[][] ways = {{}, {0, 1}, {0, 4, 2}, {0, 12, 12, 3}, {0, 32, 48, 24, 4}};
        for (int each = 1; each <= 4; each++) {
            int letters = each;
            for (int keep = 0; keep <= letters; keep++) {
                int keeps = keep;
                due(tables(letters, SUM_OF_ALL[letters]), ways[letters][keep], lab -> lab.restricted(0, keeps));
                due(tables(letters, ALWAYS[letters]), 0, lab -> lab.restricted(0, keeps));
                due(tables(letters, 0), 0, lab -> lab.restricted(0, keeps));
            }
        }

        says("Throws `IllegalArgumentException` if it is out of range");
        for (int each = 1; each <= 4; each++) {
            int letters = each;
            int[] others = beyond(0, letters);
            refusedNumbers(SOME, ARGUMENT, others, (lab, keeps) -> lab.restricted(letters - 1, keeps));
            refusedNumbers(FULL, ARGUMENT, others, (lab, keeps) -> lab.restricted(letters - 1, keeps));
        }
    }

    private void promise50() {
        promise(50);
        says("Returns whether a list tells a function.");
        due(tables(4, 0x8000), true, lab -> lab.isList(0));
        due(tables(4, 0x0880), false, lab -> lab.isList(0));
        byFunction(false, (lab, function) -> lab.isList(function), (lab, function) -> lab.isList(function));

        says("Returns true if so.");
        for (int each = 1; each <= 4; each++) {
            int letters = each;
            due(tables(letters, 0), true, lab -> lab.isList(0));
            due(tables(letters, ALWAYS[letters]), true, lab -> lab.isList(0));
            due(tables(letters, LAST_LETTER[letters]), true, lab -> lab.isList(0));
            due(tables(letters, ALWAYS[letters] - LAST_LETTER[letters]), true, lab -> lab.isList(0));
            due(tables(letters, SUM_OF_ALL[letters]), letters == 1, lab -> lab.isList(0));
        }
    }

    // ---- figures

    private void promise51() {
        promise(51);
        says("Returns how many functions there are.");
        due(NEW, 0, lab -> lab.functions());
        due(SOME, 4, lab -> lab.functions());

        says("Returns the number of functions.");
        for (int functions = 0; functions <= 24; functions++) {
            due(upTo(NEW, functions), functions, lab -> lab.functions());
        }
        due(FULL, 24, lab -> {
            Check.outcome(() -> lab.table(1, 0));
            return lab.functions();
        });
        due(NEW, 0, lab -> {
            Check.outcome(() -> lab.table(0, 0));
            return lab.functions();
        });
    }

    private void promise52() {
        promise(52);
        says("Returns the mean sensitivity over all inputs.");
        due(tables(4, 0x8000), 0.5f, lab -> lab.meanInfluence(0));
        due(tables(4, 0xFF00), 1f, lab -> lab.meanInfluence(0));
        byFunction(1.5f,
                (lab, function) -> lab.meanInfluence(function), (lab, function) -> lab.meanInfluence(function));

        says("Returns the sum of influences divided by the number of inputs, both converted to float.");
        for (int each = 1; each <= 4; each++) {
            int letters = each;
            due(tables(letters, 0), 0f, lab -> lab.meanInfluence(0));
            due(tables(letters, ALWAYS[letters]), 0f, lab -> lab.meanInfluence(0));
            due(tables(letters, 1), 2f * letters / (1 << letters), lab -> lab.meanInfluence(0));
            due(tables(letters, SUM_OF_ALL[letters]), (float) letters, lab -> lab.meanInfluence(0));
        }
    }

    private void promise53() {
        promise(53);
        says("Returns the bits of this mean.");
        due(tables(4, 0x8000), 0x3F000000, lab -> lab.meanBits(0));
        due(tables(4, 0xFF00), 0x3F800000, lab -> lab.meanBits(0));
        byFunction(0x3FC00000, (lab, function) -> lab.meanBits(function), (lab, function) -> lab.meanBits(function));

        says("Returns the bits of the float as an int.");
        for (int each = 1; each <= 4; each++) {
            int letters = each;
            due(tables(letters, 0), 0, lab -> lab.meanBits(0));
            due(tables(letters, ALWAYS[letters]), 0, lab -> lab.meanBits(0));
            due(tables(letters, SUM_OF_ALL[letters]), Float.floatToIntBits(letters), lab -> lab.meanBits(0));
            for (int table = 0; table <= ALWAYS[letters]; table += letters == 4 ? 77 : 1) {
                due(tables(letters, table), true, lab -> lab.meanBits(0) == Float.floatToIntBits(lab.meanInfluence(0)));
            }
        }
    }

    private void promise54() {
        promise(54);
        says("Returns the share of inputs with yes, over all functions.");
        due(tables(2, 1, 3, 7), 6.0 / 12.0, lab -> lab.yesShare());

        says("Returns their number divided by that of all, both converted to double.");
        due(tables(1, 0), 0.0, lab -> lab.yesShare());
        due(tables(1, 3), 1.0, lab -> lab.yesShare());
        due(allWays(0, 24), 32.0 / 384.0, lab -> lab.yesShare());
        due(lab -> {
            for (int function = 0; function < 24; function++) {
                lab.table(4, 65535);
            }
            return 0;
        }, 1.0, lab -> lab.yesShare());
        due(SOME, (1.0 + 2 + 4 + 7) / 30.0, lab -> lab.yesShare());

        says("Throws `ArithmeticException` if there are no functions");
        refused(NEW, ARITHMETIC, lab -> lab.yesShare());
        refused(lab -> {
            lab.weigh(1);
            return Check.outcome(() -> lab.table(5, 0));
        }, ARITHMETIC, lab -> lab.yesShare());
        due(tables(4, 0), 0.0, lab -> lab.yesShare());
    }

    private void promise55() {
        promise(55);
        says("Returns a sum over all functions.");
        due(tables(1, 0), 7L * 31 + 65536, lab -> lab.checksum());
        due(tables(4, 65535), 7L * 31 + 65535 + 4 * 65536, lab -> lab.checksum());

        says("Returns 7 at first, then, for each, 31 times itself plus the table, plus 65536 times the letters.");
        due(NEW, 7L, lab -> lab.checksum());
        BigInteger sum = BigInteger.valueOf(7);
        boolean isOverLong = false;
        for (int functions = 1; functions <= 24; functions++) {
            int many = functions;
            sum = sum.multiply(BigInteger.valueOf(31)).add(BigInteger.valueOf(65535 + 4 * 65536));
            // Beyond the greatest long the sum wraps around, as sums of long do.
            isOverLong |= sum.bitLength() > 63;
            due(lab -> {
                for (int function = 0; function < many; function++) {
                    lab.table(4, 65535);
                }
                return 0;
            }, sum.longValue(), lab -> lab.checksum());
        }
        boolean wraps = isOverLong;
        due(NEW, true, lab -> wraps);
    }

    private void promise56() {
        promise(56);
        says("Checks, for each function: squares of waves sum to the square of the number of inputs; the sensitivity "
                + "is at most the block number, this at most the certificate size, this at most the depth; both "
                + "degrees are at most the depth; each rank, 2 to the power of the cost of the talk of the letter 0 "
                + "with the others, is enough for it; the width is at most 2 to the power of the depth; the likeness "
                + "number is its own.");
        for (Deed made : new Deed[] {NEW, SOME, FULL, allWays(0, 24), allWays(12, 16)}) {
            due(made, true, lab -> lab.isSound());
        }

        says("Returns true if so.");
        for (int each = 1; each <= 4; each++) {
            int letters = each;
            due(tables(letters, 0, ALWAYS[letters], 1, SUM_OF_ALL[letters]), true, lab -> lab.isSound());
        }
    }
}
