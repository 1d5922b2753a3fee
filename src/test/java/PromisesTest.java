/** Each promise by examples, by the edges that the document names, and by wrong inputs. */
public final class PromisesTest {
    private static final Object INDEX = Check.refusal("IndexOutOfBoundsException");
    private static final Object ARGUMENT = Check.refusal("IllegalArgumentException");
    private static final Object STATE = Check.refusal("IllegalStateException");
    private static final Object UNSUPPORTED = Check.refusal("UnsupportedOperationException");
    private static final Object NO_SUCH = Check.refusal("NoSuchElementException");
    private static final Object ARITHMETIC = Check.refusal("ArithmeticException");

    /** Tables of three letters. */
    private static final int MAJORITY = 232;
    private static final int PARITY = 150;
    private static final int CHOICE = 0b11001010;

    private final Check check = new Check();
    private YesNoLab lab = new YesNoLab();

    public static void main(String[] args) {
        PromisesTest test = new PromisesTest();
        test.functions();
        test.turned();
        test.read();
        test.waves();
        test.degrees();
        test.trees();
        test.talkWithHidden();
        test.measures();
        test.formulas();
        test.circuits();
        test.talks();
        test.thresholds();
        test.distances();
        test.learning();
        test.monotones();
        test.games();
        test.likeness();
        test.restrictions();
        test.figures();
        test.refusalsChangeNothing();
        test.check.end();
    }

    private void due(String what, Object want, Check.Call call) {
        check.due(what, want, call);
    }

    /** A fresh laboratory with these functions of so many letters. */
    private void begin(int letters, int... tables) {
        lab = new YesNoLab();
        for (int table : tables) {
            lab.table(letters, table);
        }
    }

    private void fill() {
        lab = new YesNoLab();
        for (int function = 0; function < 24; function++) {
            lab.table(2, function % 16);
        }
    }

    // ---- promises 1 to 8

    private void functions() {
        lab = new YesNoLab();
        due("1 functions of a new object", 0, () -> lab.functions());
        due("1 asked of a new object", 0, () -> lab.asked());
        due("1 sound new object", true, () -> lab.isSound());
        due("2 least table", 0, () -> lab.table(1, 0));
        due("2 greatest of one letter", 1, () -> lab.table(1, 3));
        due("2 greatest of four letters", 2, () -> lab.table(4, 65535));
        due("2 beyond one letter", ARGUMENT, () -> lab.table(1, 4));
        due("2 beyond two letters", ARGUMENT, () -> lab.table(2, 16));
        due("2 beyond three letters", ARGUMENT, () -> lab.table(3, 256));
        due("2 beyond four letters", ARGUMENT, () -> lab.table(4, 65536));
        due("2 below", ARGUMENT, () -> lab.table(4, -1));
        due("2 no letters", ARGUMENT, () -> lab.table(0, 0));
        due("2 five letters", ARGUMENT, () -> lab.table(5, 0));
        due("2 letters by 32", ARGUMENT, () -> lab.table(33, 0));
        fill();
        due("2 full", STATE, () -> lab.table(2, 1));
        due("2 full, but no such table first", ARGUMENT, () -> lab.table(2, 16));
        weighing();
        joining();
    }

    private void weighing() {
        lab = new YesNoLab();
        due("4 no weights", UNSUPPORTED, () -> lab.threshold(0));
        due("3 least weight", 1, () -> lab.weigh(-9));
        due("3 greatest weight", 2, () -> lab.weigh(9));
        due("3 below", ARGUMENT, () -> lab.weigh(-10));
        due("3 above", ARGUMENT, () -> lab.weigh(10));
        due("3 third", 3, () -> lab.weigh(1));
        due("3 fourth", 4, () -> lab.weigh(0));
        due("3 fifth", STATE, () -> lab.weigh(0));
        due("3 fifth out of range", ARGUMENT, () -> lab.weigh(10));
        due("4 threshold", 0, () -> lab.threshold(1));
        due("4 letters", 4, () -> lab.letters(0));
        due("4 table", 0xD4D4, () -> lab.bits(0));
        due("4 the weights are none then", UNSUPPORTED, () -> lab.threshold(1));
        due("4 weights anew", 1, () -> lab.weigh(-2));
        due("4 another", 1, () -> lab.threshold(-1));
        due("4 its table", 1, () -> lab.bits(1));
        lab.weigh(1);
        due("4 the least bound", 2, () -> lab.threshold(Integer.MIN_VALUE));
        due("4 always yes", 3, () -> lab.bits(2));
        lab.weigh(1);
        due("4 the greatest bound", 3, () -> lab.threshold(Integer.MAX_VALUE));
        due("4 never yes", 0, () -> lab.bits(3));
        fill();
        due("4 full without weights", UNSUPPORTED, () -> lab.threshold(1));
        lab.weigh(1);
        due("4 full", STATE, () -> lab.threshold(1));
        due("4 the weight stays", 2, () -> lab.weigh(1));
    }

    private void joining() {
        begin(2, 10, 12);
        lab.table(1, 2);
        due("5 and", 3, () -> lab.join(0, 1, 'a'));
        due("5 or", 4, () -> lab.join(0, 1, 'o'));
        due("5 one of both", 5, () -> lab.join(0, 1, 'x'));
        due("5 with itself", 6, () -> lab.join(0, 0, 'x'));
        due("5 and's table", 8, () -> lab.bits(3));
        due("5 or's table", 14, () -> lab.bits(4));
        due("5 one of both's table", 6, () -> lab.bits(5));
        due("5 nothing's table", 0, () -> lab.bits(6));
        due("5 no first", INDEX, () -> lab.join(7, 0, 'z'));
        due("5 no second", INDEX, () -> lab.join(0, -1, 'z'));
        due("5 no such way", ARGUMENT, () -> lab.join(0, 2, 'A'));
        due("5 unlike letters", UNSUPPORTED, () -> lab.join(0, 2, 'a'));
        fill();
        due("5 full", STATE, () -> lab.join(0, 1, 'a'));
        due("5 full, no such way first", ARGUMENT, () -> lab.join(0, 1, 'n'));
    }

    private void turned() {
        begin(2, 2);
        lab.table(1, 2);
        lab.table(3, MAJORITY);
        due("6 opposite", 3, () -> lab.turn(0, 'n'));
        due("6 dual", 4, () -> lab.turn(0, 'd'));
        due("6 letters turned over", 5, () -> lab.turn(0, 'i'));
        due("6 opposite's table", 13, () -> lab.bits(3));
        due("6 dual's table", 11, () -> lab.bits(4));
        due("6 turned's table", 4, () -> lab.bits(5));
        due("6 majority's dual is itself", MAJORITY, () -> lab.bits(lab.turn(2, 'd')));
        due("6 no function", INDEX, () -> lab.turn(99, 'z'));
        due("6 no such way", ARGUMENT, () -> lab.turn(0, 'x'));
        begin(2, 2);
        lab.table(1, 2);
        lab.table(3, CHOICE);
        due("7 without the chooser, no", 3, () -> lab.fix(2, 2, false));
        due("7 the letter 0 stays", 10, () -> lab.bits(3));
        due("7 without the chooser, yes", 4, () -> lab.fix(2, 2, true));
        due("7 the letter 1 stays", 12, () -> lab.bits(4));
        due("7 higher letters become one lower", 0b1000, () -> lab.bits(lab.fix(2, 0, false)));
        due("7 and with yes", 0b1011, () -> lab.bits(lab.fix(2, 0, true)));
        due("7 letters", 2, () -> lab.letters(5));
        due("7 no function", INDEX, () -> lab.fix(-1, 9, true));
        due("7 no letter", ARGUMENT, () -> lab.fix(1, 1, true));
        due("7 below", ARGUMENT, () -> lab.fix(0, -1, true));
        due("7 one letter", UNSUPPORTED, () -> lab.fix(1, 0, true));
        due("8 and of ors", 7, () -> {
            begin(2, 8, 14);
            for (int more = 0; more < 5; more++) {
                lab.table(3, 1);
            }
            return lab.compose(0, 1);
        });
        due("8 table", 0xEEE0, () -> lab.bits(7));
        due("8 letters", 4, () -> lab.letters(7));
        due("8 or of ands", 0xF888, () -> lab.bits(lab.compose(1, 0)));
        due("8 more than 4 letters", UNSUPPORTED, () -> lab.compose(0, 2));
        due("8 no first", INDEX, () -> lab.compose(24, 0));
        due("8 no second", INDEX, () -> lab.compose(0, 24));
        begin(1, 1);
        lab.table(4, 0x8000);
        due("8 one letter outside", 0x7FFF, () -> lab.bits(lab.compose(0, 1)));
        due("8 one letter inside", 1, () -> lab.bits(lab.compose(1, 0)));
        due("8 one letter twice", 2, () -> lab.bits(lab.compose(0, 0)));
        turnedWhenFull();
    }

    private void turnedWhenFull() {
        fill();
        due("6 full", STATE, () -> lab.turn(0, 'n'));
        due("6 full, no such way first", ARGUMENT, () -> lab.turn(0, 'z'));
        due("7 full", STATE, () -> lab.fix(0, 0, true));
        due("7 full, no letter first", ARGUMENT, () -> lab.fix(0, 2, true));
        due("8 full", STATE, () -> lab.compose(0, 0));
        lab = new YesNoLab();
        lab.table(1, 2);
        for (int function = 1; function < 24; function++) {
            lab.table(3, function);
        }
        due("7 full, one letter first", UNSUPPORTED, () -> lab.fix(0, 0, true));
        due("8 full, too many letters first", UNSUPPORTED, () -> lab.compose(1, 1));
        due("5 full, unlike letters first", UNSUPPORTED, () -> lab.join(0, 1, 'a'));
    }

    // ---- promises 9 to 12

    private void read() {
        begin(3, MAJORITY, CHOICE, 0b11110000);
        lab.table(1, 0);
        due("9 letters", 3, () -> lab.letters(0));
        due("9 letters of another", 1, () -> lab.letters(3));
        due("9 no function", INDEX, () -> lab.letters(4));
        due("9 below", INDEX, () -> lab.letters(-1));
        due("10 bits", CHOICE, () -> lab.bits(1));
        due("10 no function", INDEX, () -> lab.bits(4));
        due("11 yes", true, () -> lab.says(1, 1));
        due("11 no", false, () -> lab.says(1, 4));
        due("11 last input", true, () -> lab.says(1, 7));
        due("11 no input", ARGUMENT, () -> lab.says(1, 8));
        due("11 below", ARGUMENT, () -> lab.says(1, -1));
        due("11 no function", INDEX, () -> lab.says(4, 99));
        due("12 matters", true, () -> lab.matters(1, 2));
        due("12 does not", false, () -> lab.matters(2, 0));
        due("12 alone", true, () -> lab.matters(2, 2));
        due("12 no letter", ARGUMENT, () -> lab.matters(2, 3));
        due("12 below", ARGUMENT, () -> lab.matters(2, -1));
        due("12 no function", INDEX, () -> lab.matters(4, 7));
    }

    // ---- promises 13 to 18

    private void waves() {
        begin(3, MAJORITY, PARITY, 0, 255);
        lab.table(4, 0x8888 ^ 0xF000);
        lab.table(2, 8);
        due("13 of one letter", 4, () -> lab.wave(0, 1));
        due("13 of all", -4, () -> lab.wave(0, 7));
        due("13 of none", 0, () -> lab.wave(0, 0));
        due("13 of a sum itself", 8, () -> lab.wave(1, 7));
        due("13 of no", 8, () -> lab.wave(2, 0));
        due("13 of yes", -8, () -> lab.wave(3, 0));
        due("13 no set", ARGUMENT, () -> lab.wave(0, 8));
        due("13 below", ARGUMENT, () -> lab.wave(0, -1));
        due("13 no function", INDEX, () -> lab.wave(9, 8));
        due("14 in", true, () -> lab.isIn(0, 5));
        due("14 not in", false, () -> lab.isIn(0, 7));
        due("14 a letter", true, () -> lab.isIn(1, 4));
        due("14 none is 1", true, () -> lab.isIn(3, 0));
        due("14 none is not in", false, () -> lab.isIn(2, 0));
        due("14 no set", ARGUMENT, () -> lab.isIn(0, 8));
        due("14 no function", INDEX, () -> lab.isIn(-1, 8));
        due("17 half", 208L, () -> lab.stability(0, 1, 2));
        due("17 no noise", 64L * 729, () -> lab.stability(0, 9, 9));
        due("17 a of 0", 256L * 6561, () -> {
            lab.table(4, 0);
            return lab.stability(6, 0, 9);
        });
        due("17 all noise", 0L, () -> lab.stability(0, 0, 1));
        due("17 a above b", ARGUMENT, () -> lab.stability(0, 3, 2));
        due("17 a below 0", ARGUMENT, () -> lab.stability(0, -1, 2));
        due("17 b of 0", ARGUMENT, () -> lab.stability(0, 0, 0));
        due("17 b of 10", ARGUMENT, () -> lab.stability(0, 1, 10));
        due("17 no function", INDEX, () -> lab.stability(9, 1, 10));
        due("18 four letters", true, () -> lab.isBent(4));
        due("18 two letters", true, () -> lab.isBent(5));
        due("18 majority", false, () -> lab.isBent(0));
        due("18 constant", false, () -> lab.isBent(2));
        due("18 no function", INDEX, () -> lab.isBent(7));
    }

    private void degrees() {
        begin(3, MAJORITY, PARITY, 0, 255, 0b11110000, 0x80);
        due("15 signs, majority", 3, () -> lab.degree(0, false));
        due("15 two, majority", 2, () -> lab.degree(0, true));
        due("15 signs, parity", 3, () -> lab.degree(1, false));
        due("15 two, parity", 1, () -> lab.degree(1, true));
        due("15 signs, no", 0, () -> lab.degree(2, false));
        due("15 two, no", 0, () -> lab.degree(2, true));
        due("15 two, yes", 0, () -> lab.degree(3, true));
        due("15 signs, a letter", 1, () -> lab.degree(4, false));
        due("15 two, and", 3, () -> lab.degree(5, true));
        due("15 no function", INDEX, () -> lab.degree(6, true));
        due("16 majority", 4, () -> lab.influence(0, 1));
        due("16 parity", 8, () -> lab.influence(1, 2));
        due("16 and", 2, () -> lab.influence(5, 0));
        due("16 none", 0, () -> lab.influence(4, 1));
        due("16 all", 8, () -> lab.influence(4, 2));
        due("16 no letter", ARGUMENT, () -> lab.influence(0, 3));
        due("16 below", ARGUMENT, () -> lab.influence(0, -1));
        due("16 no function", INDEX, () -> lab.influence(6, 3));
    }

    // ---- promises 19 to 25

    private void trees() {
        begin(3, MAJORITY, CHOICE, 0, 255, 0b11110000, 0xFE);
        lab.table(4, 0x6996);
        due("19 majority", 3, () -> lab.depth(0));
        due("19 choice", 2, () -> lab.depth(1));
        due("19 constant", 0, () -> lab.depth(2));
        due("19 a letter", 1, () -> lab.depth(4));
        due("19 four", 4, () -> lab.depth(6));
        due("19 no function", INDEX, () -> lab.depth(7));
        due("20 majority", 6, () -> lab.width(0));
        due("20 choice", 4, () -> lab.width(1));
        due("20 constant", 1, () -> lab.width(3));
        due("20 a letter", 2, () -> lab.width(4));
        due("20 or", 4, () -> lab.width(5));
        due("20 four", 16, () -> lab.width(6));
        due("20 no function", INDEX, () -> lab.width(-1));
        due("21 any", 0, () -> lab.question(0));
        due("21 the chooser", 2, () -> lab.question(1));
        due("21 the letter", 2, () -> lab.question(4));
        due("21 no", NO_SUCH, () -> lab.question(2));
        due("21 yes", NO_SUCH, () -> lab.question(3));
        due("21 no function", INDEX, () -> lab.question(7));
    }

    private void talkWithHidden() {
        begin(3, MAJORITY, 0);
        lab.table(2, 8);
        due("23 nothing hidden", STATE, () -> lab.ask(0));
        due("23 nothing hidden, no letter", STATE, () -> lab.ask(9));
        due("24 without a talk", 0, () -> lab.asked());
        due("25 nothing hidden", STATE, () -> lab.isSettled());
        due("22 no function", INDEX, () -> lab.hide(3, 9));
        due("22 no input", ARGUMENT, () -> lab.hide(0, 8));
        due("22 below", ARGUMENT, () -> lab.hide(0, -1));
        due("22 still nothing hidden", STATE, () -> lab.ask(0));
        due("22 hidden", 3, () -> lab.hide(0, 5));
        due("25 not yet", false, () -> lab.isSettled());
        due("23 yes", true, () -> lab.ask(0));
        due("23 no", false, () -> lab.ask(1));
        due("24 two", 2, () -> lab.asked());
        due("23 again", false, () -> lab.ask(1));
        due("24 each once", 2, () -> lab.asked());
        due("25 still not", false, () -> lab.isSettled());
        due("23 no letter", ARGUMENT, () -> lab.ask(3));
        due("23 below", ARGUMENT, () -> lab.ask(-1));
        due("22 a refused one leaves the talk", ARGUMENT, () -> lab.hide(2, 4));
        due("24 two still", 2, () -> lab.asked());
        due("23 the last", true, () -> lab.ask(2));
        due("25 settled", true, () -> lab.isSettled());
        due("22 in place of the one before", 3, () -> lab.hide(0, 3));
        due("24 none", 0, () -> lab.asked());
        lab.ask(0);
        lab.ask(1);
        due("25 settled by two", true, () -> lab.isSettled());
        due("22 constant", 0, () -> lab.hide(1, 7));
        due("25 settled at once", true, () -> lab.isSettled());
        due("22 two letters", 2, () -> lab.hide(2, 1));
        due("23 its letters", ARGUMENT, () -> lab.ask(2));
        due("23 its answer", false, () -> lab.ask(1));
        due("25 a no settles and", true, () -> lab.isSettled());
        lab.table(3, 255);
        due("24 other functions leave the talk", 1, () -> lab.asked());
    }

    // ---- promises 26 to 28

    private void measures() {
        begin(3, MAJORITY, 0, 0x80);
        lab.table(4, 0x0660);
        // Yes just where two neighbours of four letters on a ring are 1: blocks of two letters, where no letter alone turns.
        lab.table(4, 1 << 3 | 1 << 6 | 1 << 9 | 1 << 12);
        due("26 sensitivity", 2, () -> lab.measure(0, 's'));
        due("26 blocks", 2, () -> lab.measure(0, 'b'));
        due("26 certificate", 2, () -> lab.measure(0, 'c'));
        due("26 of a constant", 0, () -> lab.measure(1, 's'));
        due("26 blocks of a constant", 0, () -> lab.measure(1, 'b'));
        due("26 certificate of a constant", 0, () -> lab.measure(1, 'c'));
        due("26 and", 3, () -> lab.measure(2, 'c'));
        due("26 no such", ARGUMENT, () -> lab.measure(0, 'd'));
        due("26 no function", INDEX, () -> lab.measure(5, 'd'));
        due("27 sensitivity", 0, () -> lab.measureAt(0, 0, 's'));
        due("27 sensitivity at the edge", 2, () -> lab.measureAt(0, 1, 's'));
        due("27 blocks", 1, () -> lab.measureAt(0, 0, 'b'));
        due("27 blocks of two letters", 2, () -> lab.measureAt(4, 0, 'b'));
        due("27 no letter alone", 0, () -> lab.measureAt(4, 0, 's'));
        due("27 certificate", 3, () -> lab.measureAt(2, 7, 'c'));
        due("27 certificate of a no", 1, () -> lab.measureAt(2, 0, 'c'));
        due("27 no input", ARGUMENT, () -> lab.measureAt(0, 8, 's'));
        due("27 below", ARGUMENT, () -> lab.measureAt(0, -1, 's'));
        due("27 no such", ARGUMENT, () -> lab.measureAt(0, 0, 'S'));
        due("27 no function", INDEX, () -> lab.measureAt(5, 99, 'S'));
        due("28 majority", 6, () -> lab.certificate(0, 6));
        due("28 of several the lowest", 3, () -> lab.certificate(0, 7));
        due("28 of a no of and", 1, () -> lab.certificate(2, 4));
        due("28 the only letter of 0", 4, () -> lab.certificate(2, 3));
        due("28 of a constant", 0, () -> lab.certificate(1, 3));
        due("28 no input", ARGUMENT, () -> lab.certificate(0, 8));
        due("28 below", ARGUMENT, () -> lab.certificate(0, -1));
        due("28 no function", INDEX, () -> lab.certificate(-1, 8));
    }

    // ---- promises 29 to 31

    private void formulas() {
        begin(3, MAJORITY, PARITY, 0, 255, 0xAA, 0x55, 0x80, CHOICE);
        lab.table(2, 6);
        lab.table(4, 0);
        lab.table(1, 1);
        due("29 monotone majority", 5, () -> lab.formula(0, true));
        due("29 majority", 5, () -> lab.formula(0, false));
        due("29 parity", 10, () -> lab.formula(1, false));
        due("29 no monotone parity", NO_SUCH, () -> lab.formula(1, true));
        due("29 no", 0, () -> lab.formula(2, true));
        due("29 yes", 0, () -> lab.formula(3, true));
        due("29 yes, with opposites", 0, () -> lab.formula(3, false));
        due("29 a letter", 1, () -> lab.formula(4, true));
        due("29 the opposite of a letter", 1, () -> lab.formula(5, false));
        due("29 no monotone opposite", NO_SUCH, () -> lab.formula(5, true));
        due("29 and", 3, () -> lab.formula(6, true));
        due("29 choice", 4, () -> lab.formula(7, false));
        due("29 two letters", 4, () -> lab.formula(8, false));
        due("29 one letter", 1, () -> lab.formula(10, false));
        due("29 four letters", UNSUPPORTED, () -> lab.formula(9, true));
        due("29 no function", INDEX, () -> lab.formula(11, true));
        due("30 majority", false, () -> lab.isReadOnce(0));
        due("30 parity", false, () -> lab.isReadOnce(1));
        due("30 no", true, () -> lab.isReadOnce(2));
        due("30 yes", true, () -> lab.isReadOnce(3));
        due("30 a letter", true, () -> lab.isReadOnce(4));
        due("30 an opposite", true, () -> lab.isReadOnce(5));
        due("30 and", true, () -> lab.isReadOnce(6));
        due("30 choice", false, () -> lab.isReadOnce(7));
        due("30 two letters", false, () -> lab.isReadOnce(8));
        due("30 four letters", UNSUPPORTED, () -> lab.isReadOnce(9));
        due("30 no function", INDEX, () -> lab.isReadOnce(-1));
    }

    private void circuits() {
        begin(3, MAJORITY, PARITY, 0, 0x0F, 0x80, CHOICE, 0x18);
        lab.table(2, 9);
        lab.table(4, 0);
        lab.table(1, 1);
        due("31 majority needs more", NO_SUCH, () -> lab.gates(0));
        due("31 parity", 2, () -> lab.gates(1));
        due("31 constant", 0, () -> lab.gates(2));
        due("31 an opposite", 0, () -> lab.gates(3));
        due("31 and", 2, () -> lab.gates(4));
        due("31 choice", 3, () -> lab.gates(5));
        due("31 all alike", 3, () -> lab.gates(6));
        due("31 two letters", 1, () -> lab.gates(7));
        due("31 one letter", 0, () -> lab.gates(9));
        due("31 four letters", UNSUPPORTED, () -> lab.gates(8));
        due("31 no function", INDEX, () -> lab.gates(10));
    }

    // ---- promises 32 to 34

    private void talks() {
        begin(4, 0x8421, 0x6996, 0, 0xFFFF, 0x7BDE, 0xAAAA);
        lab.table(1, 2);
        lab.table(3, MAJORITY);
        lab.table(4, 0x1BD6);
        due("32 alike, over two", 4, () -> lab.rank(0, 3, true));
        due("32 parity, over two", 2, () -> lab.rank(1, 3, true));
        due("32 no", 0, () -> lab.rank(2, 3, true));
        due("32 yes", 1, () -> lab.rank(3, 5, false));
        due("32 unlike, over two", 4, () -> lab.rank(4, 3, true));
        due("32 unlike, over three", 3, () -> lab.rank(4, 3, false));
        due("32 over three, another", 3, () -> lab.rank(8, 6, false));
        due("32 three letters", 2, () -> lab.rank(7, 5, false));
        due("33 alike", 4, () -> lab.fooling(0, 3));
        due("33 unlike", 4, () -> lab.fooling(4, 3));
        due("33 constant", 1, () -> lab.fooling(2, 3));
        due("33 parity", 2, () -> lab.fooling(1, 3));
        due("34 alike", 3, () -> lab.talk(0, 3));
        due("34 parity", 2, () -> lab.talk(1, 7));
        due("34 constant", 0, () -> lab.talk(2, 1));
        due("34 a letter of the one", 1, () -> lab.talk(5, 1));
        due("34 a letter of the other", 1, () -> lab.talk(5, 2));
        due("34 majority", 2, () -> lab.talk(7, 1));
        refusedSets("32", (function, set) -> lab.rank(function, set, true));
        refusedSets("33", (function, set) -> lab.fooling(function, set));
        refusedSets("34", (function, set) -> lab.talk(function, set));
    }

    private interface BySet {
        Object answer(int function, int set);
    }

    private void refusedSets(String promise, BySet call) {
        due(promise + " none", ARGUMENT, () -> call.answer(0, 0));
        due(promise + " all letters", ARGUMENT, () -> call.answer(0, 15));
        due(promise + " no set", ARGUMENT, () -> call.answer(0, 16));
        due(promise + " below", ARGUMENT, () -> call.answer(0, -2));
        due(promise + " all of three letters", ARGUMENT, () -> call.answer(7, 7));
        due(promise + " no set of three letters", ARGUMENT, () -> call.answer(7, 8));
        due(promise + " one letter", ARGUMENT, () -> call.answer(6, 1));
        due(promise + " no function", INDEX, () -> call.answer(9, 0));
    }

    // ---- promises 35 and 36

    private void thresholds() {
        begin(3, MAJORITY, PARITY, 0, 255, 0b11101010, 0x0F);
        lab.table(4, 0xF888);
        due("35 majority", true, () -> lab.isThreshold(0));
        due("35 parity", false, () -> lab.isThreshold(1));
        due("35 no", true, () -> lab.isThreshold(2));
        due("35 yes", true, () -> lab.isThreshold(3));
        due("35 two pairs", false, () -> lab.isThreshold(6));
        due("35 no function", INDEX, () -> lab.isThreshold(7));
        due("36 majority", 1, () -> lab.weight(0, 2));
        due("36 its bound", 2, () -> lab.weight(0, 3));
        due("36 no", 0, () -> lab.weight(2, 0));
        due("36 never", 13, () -> lab.weight(2, 3));
        due("36 always", 0, () -> lab.weight(3, 3));
        due("36 a letter with more", 2, () -> lab.weight(4, 0));
        due("36 one with less", 1, () -> lab.weight(4, 1));
        due("36 the bound", 2, () -> lab.weight(4, 3));
        due("36 below 0", -1, () -> lab.weight(5, 2));
        due("36 none", 0, () -> lab.weight(5, 0));
        due("36 the greatest bound", 0, () -> lab.weight(5, 3));
        due("36 no index", ARGUMENT, () -> lab.weight(1, 4));
        due("36 below", ARGUMENT, () -> lab.weight(1, -1));
        due("36 no threshold", NO_SUCH, () -> lab.weight(1, 0));
        due("36 no threshold of two pairs", NO_SUCH, () -> lab.weight(6, 4));
        due("36 no function", INDEX, () -> lab.weight(7, 9));
        lab = new YesNoLab();
        for (int weight : new int[] {3, 2, 2, 1}) {
            lab.weigh(weight);
        }
        lab.threshold(5);
        due("36 three of four letters", 3, () -> lab.weight(0, 0));
        due("36 the last", 1, () -> lab.weight(0, 3));
        due("36 the bound of four letters", 5, () -> lab.weight(0, 4));
    }

    // ---- promises 37 to 39

    private void distances() {
        begin(3, MAJORITY, PARITY, 0, 255, 0x0F, 0xF0);
        lab.table(2, 9);
        lab.table(4, 0xFFFF ^ 0x6996);
        due("37 of itself", 0, () -> lab.distance(0, 0));
        due("37 of opposites", 8, () -> lab.distance(2, 3));
        due("37 of others", 4, () -> lab.distance(0, 2));
        due("37 unlike letters", UNSUPPORTED, () -> lab.distance(0, 6));
        due("37 no first", INDEX, () -> lab.distance(8, 6));
        due("37 no second", INDEX, () -> lab.distance(0, -1));
        due("38 sums, majority", 2, () -> lab.far(0, 'l'));
        due("38 sums, parity", 0, () -> lab.far(1, 'l'));
        due("38 sums, the opposite of one", 0, () -> lab.far(7, 'l'));
        due("38 sums, none", 0, () -> lab.far(2, 'l'));
        due("38 sums, the opposite of none", 0, () -> lab.far(3, 'l'));
        due("38 monotone, majority", 0, () -> lab.far(0, 'm'));
        due("38 monotone, an opposite", 4, () -> lab.far(4, 'm'));
        due("38 monotone, two letters", 1, () -> lab.far(6, 'm'));
        due("38 letters, a letter", 0, () -> lab.far(5, 'd'));
        due("38 letters, no opposite", 4, () -> lab.far(4, 'd'));
        due("38 letters, no", 4, () -> lab.far(2, 'd'));
        due("38 pairs, parity", 4, () -> lab.far(1, 'j'));
        due("38 pairs, majority", 2, () -> lab.far(0, 'j'));
        due("38 pairs, two letters", 0, () -> lab.far(6, 'j'));
        due("38 pairs, a letter", 0, () -> lab.far(4, 'j'));
        due("38 no kind", ARGUMENT, () -> lab.far(0, 'L'));
        due("38 no function", INDEX, () -> lab.far(8, 'L'));
        due("39 parity", 64, () -> lab.passes(1));
        due("39 no", 64, () -> lab.passes(2));
        due("39 yes", 0, () -> lab.passes(3));
        due("39 a letter", 64, () -> lab.passes(5));
        due("39 majority", 40, () -> lab.passes(0));
        due("39 no function", INDEX, () -> lab.passes(8));
    }

    // ---- promises 40 and 41

    private void learning() {
        lab = new YesNoLab();
        due("40 no functions at all", -1, () -> lab.dimension(0));
        due("40 another one", INDEX, () -> lab.dimension(1));
        begin(4);
        for (int way = 0; way < 16; way++) {
            lab.table(4, way << 7);
        }
        lab.table(2, 3);
        due("40 four inputs", 4, () -> lab.dimension(0xFFFF));
        due("40 a way less", 3, () -> lab.dimension(0xFFFE));
        due("40 one function", 0, () -> lab.dimension(4));
        due("40 two functions", 1, () -> lab.dimension(3));
        due("40 one function of two letters", 0, () -> lab.dimension(1 << 16));
        due("40 unlike letters", UNSUPPORTED, () -> lab.dimension(1 << 16 | 1));
        due("40 another one beside", INDEX, () -> lab.dimension(1 << 17 | 1 << 16 | 1));
        due("40 below", INDEX, () -> lab.dimension(-1));
        due("40 the last bit", INDEX, () -> lab.dimension(Integer.MIN_VALUE));
        due("41 all inputs", 1 << 5, () -> lab.left(0xFFFF, 5, 0xFFFF));
        due("41 no inputs", 0xFFFF, () -> lab.left(0xFFFF, 5, 0));
        due("41 one input", 0xAAAA, () -> lab.left(0xFFFF, 5, 1 << 7));
        due("41 no functions", 0, () -> lab.left(0, 5, 1));
        due("41 no function", INDEX, () -> lab.left(0xFFFF, 17, 1));
        due("41 another one in the set", INDEX, () -> lab.left(1 << 17, 0, -1));
        due("41 below", INDEX, () -> lab.left(-1, 0, -1));
        due("41 unlike letters in the set", UNSUPPORTED, () -> lab.left(1 << 16 | 1, 0, -1));
        due("41 unlike function", UNSUPPORTED, () -> lab.left(1, 16, 99));
        due("41 another input", ARGUMENT, () -> lab.left(1, 0, 65536));
        due("41 inputs below", ARGUMENT, () -> lab.left(1, 0, -1));
        due("41 another input of two letters", ARGUMENT, () -> lab.left(0, 16, 16));
        due("41 the last input of two letters", 1 << 16, () -> lab.left(1 << 16, 16, 15));
    }

    // ---- promises 42 to 44

    private void monotones() {
        begin(3, MAJORITY, PARITY, 0, 255, 0b11101010);
        lab.table(1, 1);
        due("42 majority", true, () -> lab.isMonotone(0));
        due("42 parity", false, () -> lab.isMonotone(1));
        due("42 no", true, () -> lab.isMonotone(2));
        due("42 yes", true, () -> lab.isMonotone(3));
        due("42 an opposite", false, () -> lab.isMonotone(5));
        due("42 no function", INDEX, () -> lab.isMonotone(6));
        due("43 first", 3, () -> lab.least(0, 0));
        due("43 second", 5, () -> lab.least(0, 1));
        due("43 last", 6, () -> lab.least(0, 2));
        due("43 not so many", NO_SUCH, () -> lab.least(0, 3));
        due("43 below", NO_SUCH, () -> lab.least(0, -1));
        due("43 fewer letters say yes, though not one fewer", NO_SUCH, () -> lab.least(1, 3));
        due("43 no", NO_SUCH, () -> lab.least(2, 0));
        due("43 yes", 0, () -> lab.least(3, 0));
        due("43 yes alone", NO_SUCH, () -> lab.least(3, 1));
        due("43 a letter", 1, () -> lab.least(4, 0));
        due("43 a pair", 6, () -> lab.least(4, 1));
        due("43 no function", INDEX, () -> lab.least(6, 0));
        int[] counts = {3, 6, 20, 168};
        for (int letters = 1; letters <= 4; letters++) {
            int each = letters;
            due("44 of " + letters, counts[letters - 1], () -> lab.monotones(each));
        }
        due("44 none", ARGUMENT, () -> lab.monotones(0));
        due("44 five", ARGUMENT, () -> lab.monotones(5));
        due("44 below", ARGUMENT, () -> lab.monotones(-1));
    }

    // ---- promises 45 and 46

    private void games() {
        begin(3, MAJORITY, PARITY, 0x0F, 0b11101010);
        lab.table(1, 2);
        due("45 majority", 2, () -> lab.swings(0, 2));
        due("45 parity", 2, () -> lab.swings(1, 0));
        due("45 an opposite", 0, () -> lab.swings(2, 2));
        due("45 the heavy letter", 3, () -> lab.swings(3, 0));
        due("45 a light letter", 1, () -> lab.swings(3, 1));
        due("45 no letter", ARGUMENT, () -> lab.swings(0, 3));
        due("45 below", ARGUMENT, () -> lab.swings(0, -1));
        due("45 no function", INDEX, () -> lab.swings(5, 3));
        due("46 majority", 2, () -> lab.power(0, 1));
        due("46 parity", 2, () -> lab.power(1, 1));
        due("46 an opposite", -6, () -> lab.power(2, 2));
        due("46 the heavy letter", 4, () -> lab.power(3, 0));
        due("46 a light letter", 1, () -> lab.power(3, 2));
        due("46 one letter", 1, () -> lab.power(4, 0));
        due("46 no letter", ARGUMENT, () -> lab.power(4, 1));
        due("46 below", ARGUMENT, () -> lab.power(4, -1));
        due("46 no function", INDEX, () -> lab.power(-1, 0));
    }

    // ---- promises 47 and 48

    private void likeness() {
        begin(3, MAJORITY, 255, 0x80, 0xFE, 0b11110000, PARITY);
        lab.table(2, 9);
        lab.table(2, 6);
        due("47 majority", 23, () -> lab.likeness(0));
        due("47 constant", 0, () -> lab.likeness(1));
        due("47 and", 1, () -> lab.likeness(2));
        due("47 or", 1, () -> lab.likeness(3));
        due("47 a letter", 15, () -> lab.likeness(4));
        due("47 parity", 105, () -> lab.likeness(5));
        due("47 two letters", 6, () -> lab.likeness(6));
        due("47 no function", INDEX, () -> lab.likeness(8));
        due("48 and, or", true, () -> lab.areLike(2, 3));
        due("48 opposites", true, () -> lab.areLike(6, 7));
        due("48 itself", true, () -> lab.areLike(0, 0));
        due("48 unlike", false, () -> lab.areLike(0, 4));
        due("48 unlike letters", false, () -> lab.areLike(2, 6));
        due("48 unlike letters of the same number", false, () -> {
            lab.table(1, 3);
            return lab.areLike(1, 8);
        });
        due("48 no first", INDEX, () -> lab.areLike(9, 0));
        due("48 no second", INDEX, () -> lab.areLike(0, 9));
    }

    // ---- promises 49 and 50

    private void restrictions() {
        begin(3, MAJORITY, PARITY, 0, 255, 0xFE, 0b11100010, CHOICE);
        lab.table(1, 2);
        due("49 none kept", 0, () -> lab.restricted(0, 0));
        due("49 one kept", 6, () -> lab.restricted(0, 1));
        due("49 two kept", 12, () -> lab.restricted(0, 2));
        due("49 all kept", 3, () -> lab.restricted(0, 3));
        due("49 parity", 12, () -> lab.restricted(1, 1));
        due("49 constant", 0, () -> lab.restricted(2, 2));
        due("49 one letter", 1, () -> lab.restricted(7, 1));
        due("49 below", ARGUMENT, () -> lab.restricted(0, -1));
        due("49 too many", ARGUMENT, () -> lab.restricted(0, 4));
        due("49 no function", INDEX, () -> lab.restricted(8, 4));
        due("50 majority", false, () -> lab.isList(0));
        due("50 parity", false, () -> lab.isList(1));
        due("50 no", true, () -> lab.isList(2));
        due("50 yes", true, () -> lab.isList(3));
        due("50 or", true, () -> lab.isList(4));
        due("50 choice", false, () -> lab.isList(6));
        due("50 one letter", true, () -> lab.isList(7));
        due("50 a longer list", true, () -> {
            // If letter 1 then yes, if not letter 0 then no, if letter 2 then no, at the end yes.
            lab.table(3, 0b11001110);
            return lab.isList(8);
        });
        due("50 two steps, then none", false, () -> {
            lab.table(4, 0x0880);
            return lab.isList(9);
        });
        due("50 no function", INDEX, () -> lab.isList(10));
    }

    // ---- promises 51 to 56

    private void figures() {
        lab = new YesNoLab();
        due("51 none", 0, () -> lab.functions());
        due("54 none", ARITHMETIC, () -> lab.yesShare());
        due("55 at first", 7L, () -> lab.checksum());
        due("52 no function", INDEX, () -> lab.meanInfluence(0));
        due("53 no function", INDEX, () -> lab.meanBits(0));
        lab.table(3, MAJORITY);
        lab.table(4, 0x6996);
        lab.table(2, 0);
        due("51 three", 3, () -> lab.functions());
        due("52 majority", 1.5f, () -> lab.meanInfluence(0));
        due("52 parity", 4f, () -> lab.meanInfluence(1));
        due("52 constant", 0f, () -> lab.meanInfluence(2));
        due("52 below", INDEX, () -> lab.meanInfluence(-1));
        due("53 majority", 1069547520, () -> lab.meanBits(0));
        due("53 parity", Float.floatToIntBits(4f), () -> lab.meanBits(1));
        due("53 constant", 0, () -> lab.meanBits(2));
        due("53 below", INDEX, () -> lab.meanBits(-1));
        due("54 share", 12.0 / 28.0, () -> lab.yesShare());
        due("55 three", ((7L * 31 + MAJORITY + 3 * 65536) * 31 + 0x6996 + 4 * 65536) * 31 + 2 * 65536, () -> lab.checksum());
        due("56 three", true, () -> lab.isSound());
        fill();
        due("51 full", 24, () -> lab.functions());
        due("56 full", true, () -> lab.isSound());
        due("56 again", true, () -> lab.isSound());
        long sum = 7;
        for (int function = 0; function < 24; function++) {
            sum = 31 * sum + function % 16 + 2 * 65536L;
        }
        due("55 full", sum, () -> lab.checksum());
    }

    /** What a refused call would have changed is asked before and after. */
    private void refusalsChangeNothing() {
        begin(2, 8, 6);
        lab.table(1, 2);
        lab.weigh(3);
        lab.hide(0, 3);
        lab.ask(1);
        long before = lab.checksum();
        Check.Call[] refused = {
            () -> lab.table(5, 0), () -> lab.weigh(11), () -> lab.join(0, 2, 'a'), () -> lab.join(0, 9, 'a'),
            () -> lab.turn(0, 'z'), () -> lab.fix(2, 0, true), () -> lab.compose(9, 0), () -> lab.hide(2, 2),
            () -> lab.hide(9, 0), () -> lab.ask(2), () -> lab.dimension(7), () -> lab.far(0, 'z')};
        for (Check.Call call : refused) {
            Check.outcome(call);
        }
        due("checksum after refusals", before, () -> lab.checksum());
        due("functions after refusals", 3, () -> lab.functions());
        due("asked after refusals", 1, () -> lab.asked());
        due("answer after refusals", true, () -> lab.ask(0));
        due("weights after refusals", 2, () -> lab.weigh(0));
    }
}
