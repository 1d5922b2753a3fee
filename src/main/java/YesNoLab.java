import java.util.NoSuchElementException;

/** A laboratory of functions that say yes or no; the document DOC.md says what each call answers. */
public final class YesNoLab {
    private static final int MOST_FUNCTIONS = 24;
    private static final int MOST_LETTERS = 4;
    private static final int MOST_WEIGHT = 9;

    private final int[] letterCounts = new int[MOST_FUNCTIONS];
    private final int[] tables = new int[MOST_FUNCTIONS];
    /** The likeness numbers that were asked for, and one below 0 for the others: they are dear to find. */
    private final int[] likenesses = new int[MOST_FUNCTIONS];
    private int count = 0;
    private final int[] weights = new int[MOST_LETTERS];
    private int weightCount = 0;
    private int hidden = -1;
    private int hiddenInput = 0;
    private int askedLetters = 0;
    private int soundFunctions = 0;

    private final Cubes cubes = new Cubes();
    private final Blocks blocks = new Blocks();
    private final Formulas formulas = new Formulas(true);
    private final Formulas monotoneFormulas = new Formulas(false);
    private final Circuits circuits = new Circuits();
    private final Matrix matrix = new Matrix();
    private final Thresholds thresholds = new Thresholds();
    private final Monotones monotoneTables = new Monotones();
    private final Sample sample = new Sample();

    public YesNoLab() {
    }

    // ---- functions

    public int table(int letters, int bits) throws IllegalArgumentException, IllegalStateException {
        if (letters < 1 || letters > MOST_LETTERS || bits < 0 || bits > Tables.all(letters)) {
            throw new IllegalArgumentException("no such table");
        }
        return added(letters, bits);
    }

    public int weigh(int weight) throws IllegalArgumentException, IllegalStateException {
        if (weight < -MOST_WEIGHT || weight > MOST_WEIGHT) {
            throw new IllegalArgumentException("no such weight");
        }
        if (weightCount < 0 || weightCount >= weights.length) {
            throw new IllegalStateException("there are 4 weights");
        }
        weights[weightCount] = weight;
        weightCount++;
        return weightCount;
    }

    public int threshold(int bound) throws UnsupportedOperationException, IllegalStateException {
        if (weightCount <= 0) {
            throw new UnsupportedOperationException("no weights");
        }
        int table = 0;
        for (int input = 0; input < (1 << weightCount); input++) {
            if (weightOf(input) >= bound) {
                table |= 1 << input;
            }
        }
        int number = added(weightCount, table);
        weightCount = 0;
        return number;
    }

    public int join(int one, int other, char by) throws IndexOutOfBoundsException, IllegalArgumentException, UnsupportedOperationException, IllegalStateException {
        int oneTable = tableOf(one);
        int otherTable = tableOf(other);
        if (by != 'a' && by != 'o' && by != 'x') {
            throw new IllegalArgumentException("no such way to join");
        }
        checkSameLetters(one, other);
        if (by == 'a') {
            return added(lettersOf(one), oneTable & otherTable);
        }
        return added(lettersOf(one), by == 'o' ? oneTable | otherTable : oneTable ^ otherTable);
    }

    public int turn(int function, char how) throws IndexOutOfBoundsException, IllegalArgumentException, IllegalStateException {
        int letters = lettersOf(function);
        int table = tableOf(function);
        if (how != 'n' && how != 'd' && how != 'i') {
            throw new IllegalArgumentException("no such way to turn");
        }
        if (how != 'n') {
            for (int letter = 0; letter < letters; letter++) {
                table = Tables.flipped(table, letter);
            }
        }
        return added(letters, how == 'i' ? table : Tables.opposite(letters, table));
    }

    public int fix(int function, int letter, boolean isYes) throws IndexOutOfBoundsException, IllegalArgumentException, UnsupportedOperationException, IllegalStateException {
        int letters = lettersOf(function);
        int table = tableOf(function);
        checkLetter(letters, letter);
        if (letters == 1) {
            throw new UnsupportedOperationException("it has one letter");
        }
        return added(letters - 1, Tables.without(letters, table, letter, isYes));
    }

    public int compose(int one, int other) throws IndexOutOfBoundsException, UnsupportedOperationException, IllegalStateException {
        int oneLetters = lettersOf(one);
        int otherLetters = lettersOf(other);
        if (oneLetters * otherLetters > MOST_LETTERS) {
            throw new UnsupportedOperationException("more than 4 letters");
        }
        int oneTable = tableOf(one);
        int otherTable = tableOf(other);
        int letters = oneLetters * otherLetters;
        int table = 0;
        for (int input = 0; input < (1 << letters); input++) {
            int inner = 0;
            for (int letter = 0; letter < oneLetters; letter++) {
                int part = (input >> (letter * otherLetters)) & ((1 << otherLetters) - 1);
                inner |= Tables.answer(otherTable, part) << letter;
            }
            table |= Tables.answer(oneTable, inner) << input;
        }
        return added(letters, table);
    }

    public int letters(int function) throws IndexOutOfBoundsException {
        return lettersOf(function);
    }

    public int bits(int function) throws IndexOutOfBoundsException {
        return tableOf(function);
    }

    public boolean says(int function, int input) throws IndexOutOfBoundsException, IllegalArgumentException {
        int table = tableOf(function);
        checkInput(lettersOf(function), input);
        return Tables.answer(table, input) == 1;
    }

    public boolean matters(int function, int letter) throws IndexOutOfBoundsException, IllegalArgumentException {
        int table = tableOf(function);
        checkLetter(lettersOf(function), letter);
        return Tables.turns(table, letter) != 0;
    }

    // ---- spectra

    public int wave(int function, int set) throws IndexOutOfBoundsException, IllegalArgumentException {
        int letters = lettersOf(function);
        checkInput(letters, set);
        return Tables.waveOf(letters, tableOf(function), set);
    }

    public boolean isIn(int function, int set) throws IndexOutOfBoundsException, IllegalArgumentException {
        int letters = lettersOf(function);
        checkInput(letters, set);
        return Tables.answer(Tables.products(letters, tableOf(function)), set) == 1;
    }

    public int degree(int function, boolean isOverTwo) throws IndexOutOfBoundsException {
        return degreeOf(lettersOf(function), tableOf(function), isOverTwo);
    }

    public int influence(int function, int letter) throws IndexOutOfBoundsException, IllegalArgumentException {
        int table = tableOf(function);
        checkLetter(lettersOf(function), letter);
        return Tables.influenceOf(table, letter);
    }

    public long stability(int function, int a, int b) throws IndexOutOfBoundsException, IllegalArgumentException {
        int letters = lettersOf(function);
        int table = tableOf(function);
        if (b < 1 || b > 9 || a < 0 || a > b) {
            throw new IllegalArgumentException("no such noise");
        }
        long sum = 0;
        for (int set = 0; set < (1 << letters); set++) {
            long wave = Tables.waveOf(letters, table, set);
            long term = wave * wave;
            for (int letter = 0; letter < letters; letter++) {
                term *= Tables.answer(set, letter) == 1 ? a : b;
            }
            sum += term;
        }
        return sum;
    }

    public boolean isBent(int function) throws IndexOutOfBoundsException {
        int letters = lettersOf(function);
        int table = tableOf(function);
        int amount = Math.abs(Tables.waveOf(letters, table, 0));
        for (int set = 1; set < (1 << letters); set++) {
            if (Math.abs(Tables.waveOf(letters, table, set)) != amount) {
                return false;
            }
        }
        return true;
    }

    // ---- trees

    public int depth(int function) throws IndexOutOfBoundsException {
        return cubesOf(function).wholeDepth();
    }

    public int width(int function) throws IndexOutOfBoundsException {
        return cubesOf(function).wholeWidth();
    }

    public int question(int function) throws IndexOutOfBoundsException, NoSuchElementException {
        int letter = cubesOf(function).firstQuestion();
        if (letter < 0) {
            throw new NoSuchElementException("the function is constant");
        }
        return letter;
    }

    public int hide(int function, int input) throws IndexOutOfBoundsException, IllegalArgumentException {
        checkInput(lettersOf(function), input);
        hidden = function;
        hiddenInput = input;
        askedLetters = 0;
        return cubesOf(function).wholeDepth();
    }

    public boolean ask(int letter) throws IllegalStateException, IllegalArgumentException {
        checkTalk();
        checkLetter(lettersOf(hidden), letter);
        askedLetters |= 1 << letter;
        return Tables.answer(hiddenInput, letter) == 1;
    }

    public int asked() {
        return Integer.bitCount(askedLetters);
    }

    public boolean isSettled() throws IllegalStateException {
        checkTalk();
        return cubesOf(hidden).isPlainAt(askedLetters, hiddenInput);
    }

    // ---- measures

    public int measure(int function, char what) throws IndexOutOfBoundsException, IllegalArgumentException {
        int letters = lettersOf(function);
        checkMeasure(what);
        return greatest(function, letters, what);
    }

    public int measureAt(int function, int input, char what) throws IndexOutOfBoundsException, IllegalArgumentException {
        checkInput(lettersOf(function), input);
        checkMeasure(what);
        return measured(function, input, what);
    }

    public int certificate(int function, int input) throws IndexOutOfBoundsException, IllegalArgumentException {
        checkInput(lettersOf(function), input);
        return cubesOf(function).leastCertificate(input);
    }

    // ---- formulas and circuits

    public int formula(int function, boolean isMonotone) throws IndexOutOfBoundsException, UnsupportedOperationException, NoSuchElementException {
        int table = tableOfThree(function);
        int size = isMonotone ? monotoneFormulas.sizeOf(table) : formulas.sizeOf(table);
        if (size < 0) {
            throw new NoSuchElementException("no such formula");
        }
        return size;
    }

    public boolean isReadOnce(int function) throws IndexOutOfBoundsException, UnsupportedOperationException {
        int table = tableOfThree(function);
        int mattering = 0;
        for (int letter = 0; letter < lettersOf(function); letter++) {
            if (Tables.turns(table, letter) != 0) {
                mattering++;
            }
        }
        // A formula has each letter that matters at least once, so the least size tells whether once is enough.
        return formulas.sizeOf(table) == mattering;
    }

    public int gates(int function) throws IndexOutOfBoundsException, UnsupportedOperationException, NoSuchElementException {
        int gateCount = circuits.gatesOf(tableOfThree(function));
        if (gateCount > Circuits.MOST_GATES) {
            throw new NoSuchElementException("more than 3 gates");
        }
        return gateCount;
    }

    // ---- talks

    public int rank(int function, int set, boolean isOverTwo) throws IndexOutOfBoundsException, IllegalArgumentException {
        return matrixOf(function, set).rankOver(isOverTwo);
    }

    public int fooling(int function, int set) throws IndexOutOfBoundsException, IllegalArgumentException {
        return matrixOf(function, set).greatestFooling();
    }

    public int talk(int function, int set) throws IndexOutOfBoundsException, IllegalArgumentException {
        return matrixOf(function, set).cost();
    }

    // ---- thresholds, tests

    public boolean isThreshold(int function) throws IndexOutOfBoundsException {
        return thresholds.hasWeights(lettersOf(function), tableOf(function));
    }

    public int weight(int function, int index) throws IndexOutOfBoundsException, IllegalArgumentException, NoSuchElementException {
        int letters = lettersOf(function);
        int table = tableOf(function);
        if (index < 0 || index > letters) {
            throw new IllegalArgumentException("no such index");
        }
        if (!thresholds.hasWeights(letters, table)) {
            throw new NoSuchElementException("no such threshold");
        }
        return index == letters ? thresholds.greatestBound() : thresholds.leastWeight(index);
    }

    public int distance(int one, int other) throws IndexOutOfBoundsException, UnsupportedOperationException {
        int oneTable = tableOf(one);
        int otherTable = tableOf(other);
        checkSameLetters(one, other);
        return Integer.bitCount(oneTable ^ otherTable);
    }

    public int far(int function, char kind) throws IndexOutOfBoundsException, IllegalArgumentException {
        int letters = lettersOf(function);
        int table = tableOf(function);
        if (kind == 'l') {
            return Tables.farFromSums(letters, table);
        }
        if (kind == 'm') {
            return monotoneTables.leastDistance(letters, table);
        }
        if (kind == 'd') {
            return Tables.farFromLetters(letters, table);
        }
        if (kind == 'j') {
            return Tables.farFromPairs(letters, table);
        }
        throw new IllegalArgumentException("no such kind");
    }

    public int passes(int function) throws IndexOutOfBoundsException {
        int table = tableOf(function);
        int size = 1 << lettersOf(function);
        int passed = 0;
        for (int one = 0; one < size; one++) {
            for (int other = 0; other < size; other++) {
                int sum = Tables.answer(table, one) ^ Tables.answer(table, other);
                if (Tables.answer(table, one ^ other) == sum) {
                    passed++;
                }
            }
        }
        return passed;
    }

    // ---- learning, games

    public int dimension(int set) throws IndexOutOfBoundsException, UnsupportedOperationException {
        checkFunctions(set);
        int letters = commonLetters(set, 0);
        if (set == 0) {
            return -1;
        }
        sample.clear(1 << letters, set);
        for (int function = 0; function < count; function++) {
            if (Tables.answer(set, function) == 1) {
                sample.take(function, tableOf(function));
            }
        }
        return sample.mostShattered();
    }

    public int left(int set, int function, int inputs) throws IndexOutOfBoundsException, UnsupportedOperationException, IllegalArgumentException {
        int table = tableOf(function);
        checkFunctions(set);
        int letters = commonLetters(set, lettersOf(function));
        if (inputs < 0 || inputs > Tables.all(letters)) {
            throw new IllegalArgumentException("no such inputs");
        }
        int agreeing = 0;
        for (int each = 0; each < count; each++) {
            if (Tables.answer(set, each) == 1 && ((tableOf(each) ^ table) & inputs) == 0) {
                agreeing |= 1 << each;
            }
        }
        return agreeing;
    }

    public boolean isMonotone(int function) throws IndexOutOfBoundsException {
        int letters = lettersOf(function);
        int table = tableOf(function);
        for (int letter = 0; letter < letters; letter++) {
            if (Tables.falls(table, letter) != 0) {
                return false;
            }
        }
        return true;
    }

    public int least(int function, int index) throws IndexOutOfBoundsException, NoSuchElementException {
        int letters = lettersOf(function);
        int table = tableOf(function);
        int found = 0;
        for (int input = 0; input < (1 << letters); input++) {
            if (Tables.isLeastTrue(table, input)) {
                if (found == index) {
                    return input;
                }
                found++;
            }
        }
        throw new NoSuchElementException("not so many least true inputs");
    }

    public int monotones(int letters) throws IllegalArgumentException {
        if (letters < 1 || letters > MOST_LETTERS) {
            throw new IllegalArgumentException("no such number of letters");
        }
        return monotoneTables.countOf(letters);
    }

    public int swings(int function, int letter) throws IndexOutOfBoundsException, IllegalArgumentException {
        int table = tableOf(function);
        checkLetter(lettersOf(function), letter);
        return Integer.bitCount(Tables.rises(table, letter));
    }

    public int power(int function, int letter) throws IndexOutOfBoundsException, IllegalArgumentException {
        int letters = lettersOf(function);
        int table = tableOf(function);
        checkLetter(letters, letter);
        int rises = Tables.rises(table, letter);
        int falls = Tables.falls(table, letter);
        int orders = 0;
        for (int input = 0; input < (1 << letters); input++) {
            int before = Integer.bitCount(input);
            int turned = Tables.answer(rises, input) - Tables.answer(falls, input);
            orders += turned * Tables.orders(before) * Tables.orders(letters - 1 - before);
        }
        return orders;
    }

    // ---- likeness, restrictions

    public int likeness(int function) throws IndexOutOfBoundsException {
        return likenessOf(function);
    }

    public boolean areLike(int one, int other) throws IndexOutOfBoundsException {
        return lettersOf(one) == lettersOf(other) && likenessOf(one) == likenessOf(other);
    }

    public int restricted(int function, int keeps) throws IndexOutOfBoundsException, IllegalArgumentException {
        int letters = lettersOf(function);
        if (keeps < 0 || keeps > letters) {
            throw new IllegalArgumentException("no such number of letters to keep");
        }
        return cubesOf(function).sumOfDepths(keeps);
    }

    public boolean isList(int function) throws IndexOutOfBoundsException {
        return cubesOf(function).hasList();
    }

    // ---- figures

    public int functions() {
        return count;
    }

    public float meanInfluence(int function) throws IndexOutOfBoundsException {
        int inputs = 1 << lettersOf(function);
        return (float) sumOfInfluences(function) / (float) inputs;
    }

    public int meanBits(int function) throws IndexOutOfBoundsException {
        int letters = lettersOf(function);
        int sum = sumOfInfluences(function);
        if (sum == 0) {
            return 0;
        }
        int exponent = 0;
        while (exponent < 23 && (sum >> (exponent + 1)) != 0) {
            exponent++;
        }
        // The divisor is 2 to the power of the letters, so the quotient keeps the digits of the sum.
        int digits = (sum << (23 - exponent)) & ((1 << 23) - 1);
        return ((exponent - letters + 127) << 23) | digits;
    }

    public double yesShare() throws ArithmeticException {
        int yes = 0;
        int all = 0;
        for (int function = 0; function < count; function++) {
            yes += Integer.bitCount(tableOf(function));
            all += 1 << lettersOf(function);
        }
        if (all == 0) {
            throw new ArithmeticException("no functions");
        }
        return (double) yes / (double) all;
    }

    public long checksum() {
        long sum = 7;
        for (int function = 0; function < count; function++) {
            sum = 31 * sum + tableOf(function) + 65536L * lettersOf(function);
        }
        return sum;
    }

    public boolean isSound() {
        // A function never changes, so one that was found sound is not looked at again.
        while (soundFunctions < count) {
            boolean isSoundAt = areWavesSound(soundFunctions)
                    && areMeasuresSound(soundFunctions)
                    && areRanksSound(soundFunctions)
                    && isLikenessSound(soundFunctions);
            if (!isSoundAt) {
                return false;
            }
            soundFunctions++;
        }
        return true;
    }

    // ---- what the calls share

    private int added(int letters, int table) {
        if (count < 0 || count >= MOST_FUNCTIONS) {
            throw new IllegalStateException("there are 24 functions");
        }
        letterCounts[count] = letters;
        tables[count] = table;
        likenesses[count] = -1;
        count++;
        return count - 1;
    }

    private int tableOf(int function) {
        if (function < 0 || function >= count || function >= tables.length) {
            throw new IndexOutOfBoundsException("no such function");
        }
        return tables[function];
    }

    private int lettersOf(int function) {
        if (function < 0 || function >= count || function >= letterCounts.length) {
            throw new IndexOutOfBoundsException("no such function");
        }
        return letterCounts[function];
    }

    /** The table over three letters, so that one list of formulas, or circuits, serves all. */
    private int tableOfThree(int function) {
        int letters = lettersOf(function);
        if (letters > 3) {
            throw new UnsupportedOperationException("it has 4 letters");
        }
        int table = tableOf(function);
        for (int more = letters; more < 3; more++) {
            table |= table << (1 << more);
        }
        return table;
    }

    private int likenessOf(int function) {
        int table = tableOf(function);
        if (likenesses[function] < 0) {
            likenesses[function] = Tables.leastLike(lettersOf(function), table);
        }
        return likenesses[function];
    }

    private Cubes cubesOf(int function) {
        cubes.read(lettersOf(function), tableOf(function));
        return cubes;
    }

    private Matrix matrixOf(int function, int set) {
        int letters = lettersOf(function);
        if (set <= 0 || set >= (1 << letters) - 1) {
            throw new IllegalArgumentException("no such set, none, or all letters");
        }
        matrix.read(letters, tableOf(function), set);
        return matrix;
    }

    private int weightOf(int input) {
        int sum = 0;
        for (int letter = 0; letter < weights.length; letter++) {
            if (Tables.answer(input, letter) == 1) {
                sum += weights[letter];
            }
        }
        return sum;
    }

    private void checkLetter(int letters, int letter) {
        if (letter < 0 || letter >= letters) {
            throw new IllegalArgumentException("no such letter");
        }
    }

    /** Inputs and sets of letters are the same numbers. */
    private void checkInput(int letters, int input) {
        if (input < 0 || input >= (1 << letters)) {
            throw new IllegalArgumentException("no such input or set");
        }
    }

    private void checkSameLetters(int one, int other) {
        if (lettersOf(one) != lettersOf(other)) {
            throw new UnsupportedOperationException("unlike numbers of letters");
        }
    }

    private void checkTalk() {
        if (hidden < 0) {
            throw new IllegalStateException("nothing is hidden");
        }
    }

    private void checkMeasure(char what) {
        if (what != 's' && what != 'b' && what != 'c') {
            throw new IllegalArgumentException("no such measure");
        }
    }

    private void checkFunctions(int set) {
        if (set < 0 || set >= (1 << count)) {
            throw new IndexOutOfBoundsException("no such function in the set");
        }
    }

    /** The letters of each function of a set; 0 letters to begin with stand for any number. */
    private int commonLetters(int set, int letters) {
        int common = letters;
        for (int function = 0; function < count; function++) {
            if (Tables.answer(set, function) == 1) {
                if (common != 0 && common != lettersOf(function)) {
                    throw new UnsupportedOperationException("unlike numbers of letters");
                }
                common = lettersOf(function);
            }
        }
        return common;
    }

    private int degreeOf(int letters, int table, boolean isOverTwo) {
        int products = Tables.products(letters, table);
        int most = 0;
        for (int set = 0; set < (1 << letters); set++) {
            boolean counts = isOverTwo ? Tables.answer(products, set) == 1 : Tables.waveOf(letters, table, set) != 0;
            if (counts) {
                most = Math.max(most, Integer.bitCount(set));
            }
        }
        return most;
    }

    private int measured(int function, int input, char what) {
        if (what == 's') {
            return Tables.sensitivityAt(lettersOf(function), tableOf(function), input);
        }
        if (what == 'b') {
            return blocks.mostAt(lettersOf(function), tableOf(function), input);
        }
        cubes.read(lettersOf(function), tableOf(function));
        return Integer.bitCount(cubes.leastCertificate(input));
    }

    private int greatest(int function, int letters, char what) {
        int most = 0;
        for (int input = 0; input < (1 << letters); input++) {
            most = Math.max(most, measured(function, input, what));
        }
        return most;
    }

    private int sumOfInfluences(int function) {
        int sum = 0;
        for (int letter = 0; letter < lettersOf(function); letter++) {
            sum += Tables.influenceOf(tableOf(function), letter);
        }
        return sum;
    }

    private boolean areWavesSound(int function) {
        int letters = lettersOf(function);
        int table = tableOf(function);
        int sum = 0;
        for (int set = 0; set < (1 << letters); set++) {
            int wave = Tables.waveOf(letters, table, set);
            sum += wave * wave;
        }
        return sum == 1 << (2 * letters);
    }

    private boolean areMeasuresSound(int function) {
        int letters = lettersOf(function);
        int table = tableOf(function);
        int blockNumber = greatest(function, letters, 'b');
        int certificateSize = greatest(function, letters, 'c');
        int most = cubesOf(function).wholeDepth();
        return greatest(function, letters, 's') <= blockNumber
                && blockNumber <= certificateSize
                && certificateSize <= most
                && degreeOf(letters, table, false) <= most
                && degreeOf(letters, table, true) <= most
                && cubesOf(function).wholeWidth() <= 1 << most;
    }

    private boolean areRanksSound(int function) {
        if (lettersOf(function) == 1) {
            return true;
        }
        Matrix first = matrixOf(function, 1);
        int enough = 1 << first.cost();
        return first.rankOver(true) <= enough && first.rankOver(false) <= enough;
    }

    private boolean isLikenessSound(int function) {
        int like = likenessOf(function);
        return Tables.leastLike(lettersOf(function), like) == like;
    }

    /** What is read off a table alone; one machine word holds it, so whole tables are masked and shifted at once. */
    private static final class Tables {
        /** The inputs at which the letter is 1, for each letter. */
        private static final int[] ONES = {0xAAAA, 0xCCCC, 0xF0F0, 0xFF00};
        private static final int[] ORDERS = {1, 1, 2, 6, 24};

        static int all(int letters) {
            return (1 << (1 << letters)) - 1;
        }

        static int ones(int letter) {
            return letter < 0 || letter >= ONES.length ? 0 : ONES[letter];
        }

        static int orders(int letters) {
            return letters < 0 || letters >= ORDERS.length ? 0 : ORDERS[letters];
        }

        /** 1 or 0: what the table says at an input, whether a set has a member. */
        static int answer(int table, int input) {
            return (table >> input) & 1;
        }

        static int opposite(int letters, int table) {
            return table ^ all(letters);
        }

        static int flipped(int table, int letter) {
            int shift = 1 << letter;
            return ((table & ones(letter)) >> shift) | ((table & ~ones(letter)) << shift);
        }

        static int swapped(int table, int low, int high) {
            if (low >= high) {
                return table;
            }
            int shift = (1 << high) - (1 << low);
            int moving = ones(low) & ~ones(high);
            int staying = table & ~(moving | (moving << shift));
            return staying | ((table & moving) << shift) | ((table >> shift) & moving);
        }

        static int without(int letters, int table, int letter, boolean isYes) {
            int result = 0;
            for (int input = 0; input < (1 << (letters - 1)); input++) {
                int lower = input & ((1 << letter) - 1);
                int whole = ((input ^ lower) << 1) | lower | (isYes ? 1 << letter : 0);
                result |= answer(table, whole) << input;
            }
            return result;
        }

        /** The inputs without the letter at which the answer turns over with it. */
        static int turns(int table, int letter) {
            return rises(table, letter) | falls(table, letter);
        }

        static int rises(int table, int letter) {
            return ~table & (table >> (1 << letter)) & ~ones(letter);
        }

        static int falls(int table, int letter) {
            return table & ~(table >> (1 << letter)) & ~ones(letter);
        }

        static int influenceOf(int table, int letter) {
            return 2 * Integer.bitCount(turns(table, letter));
        }

        static int sensitivityAt(int letters, int table, int input) {
            int turning = 0;
            for (int letter = 0; letter < letters; letter++) {
                if (answer(table, input ^ (1 << letter)) != answer(table, input)) {
                    turning++;
                }
            }
            return turning;
        }

        /** The sum of the letters of a set, by odd and even, as a table. */
        static int sumOf(int letters, int set) {
            int sum = 0;
            for (int letter = 0; letter < letters; letter++) {
                if (answer(set, letter) == 1) {
                    sum ^= ones(letter);
                }
            }
            return sum & all(letters);
        }

        static int waveOf(int letters, int table, int set) {
            // Each input counts -1 just where the function and the sum of the set say another thing.
            return (1 << letters) - 2 * Integer.bitCount(table ^ sumOf(letters, set));
        }

        /** The sets whose products sum to the function over two, as bits. */
        static int products(int letters, int table) {
            int sets = table;
            for (int letter = 0; letter < letters; letter++) {
                sets ^= (sets & ~ones(letter)) << (1 << letter);
            }
            return sets;
        }

        static int farFromSums(int letters, int table) {
            int best = 1 << letters;
            for (int set = 0; set < (1 << letters); set++) {
                int distance = Integer.bitCount(table ^ sumOf(letters, set));
                best = Math.min(best, Math.min(distance, (1 << letters) - distance));
            }
            return best;
        }

        static int farFromLetters(int letters, int table) {
            int best = 1 << letters;
            for (int letter = 0; letter < letters; letter++) {
                best = Math.min(best, Integer.bitCount(table ^ sumOf(letters, 1 << letter)));
            }
            return best;
        }

        static int farFromPairs(int letters, int table) {
            if (letters <= 2) {
                return 0;
            }
            int best = 1 << letters;
            for (int one = 0; one < letters; one++) {
                for (int other = one + 1; other < letters; other++) {
                    best = Math.min(best, farFromPair(letters, table, ones(one), ones(other)));
                }
            }
            return best;
        }

        /** Where two letters alone matter, each of their four ways best says what most inputs there say. */
        private static int farFromPair(int letters, int table, int one, int other) {
            return fewer(table, one & other & all(letters))
                    + fewer(table, one & ~other & all(letters))
                    + fewer(table, ~one & other & all(letters))
                    + fewer(table, ~one & ~other & all(letters));
        }

        private static int fewer(int table, int inputs) {
            return Math.min(Integer.bitCount(table & inputs), Integer.bitCount(~table & inputs));
        }

        static boolean isLeastTrue(int table, int input) {
            if (answer(table, input) == 0) {
                return false;
            }
            for (int other = 0; other < input; other++) {
                if ((other & ~input) == 0 && answer(table, other) == 1) {
                    return false;
                }
            }
            return true;
        }

        static int leastLike(int letters, int table) {
            return leastOrdered(letters, table, letters - 1);
        }

        /** The letters up to the top one are still to be ordered. */
        private static int leastOrdered(int letters, int table, int top) {
            if (top <= 0) {
                return leastTurned(letters, table, letters - 1);
            }
            int best = all(letters);
            for (int letter = 0; letter <= top; letter++) {
                best = Math.min(best, leastOrdered(letters, swapped(table, letter, top), top - 1));
            }
            return best;
        }

        /** The letters up to the top one are still to be turned over, or not. */
        private static int leastTurned(int letters, int table, int top) {
            if (top < 0) {
                return Math.min(table, opposite(letters, table));
            }
            return Math.min(leastTurned(letters, table, top - 1),
                    leastTurned(letters, flipped(table, top), top - 1));
        }
    }

    /** Of one function all parts in which some letters are fixed: what they say, their depths and their widths. */
    private static final class Cubes {
        private static final int MIXED = 2;
        private static final int NONE = 99;

        private final int[] answers = new int[256];
        private final int[] depths = new int[256];
        private final int[] widths = new int[256];
        private int letters = 0;
        private int table = 0;

        void read(int newLetters, int newTable) {
            if (letters == newLetters && table == newTable) {
                return;
            }
            letters = newLetters;
            table = newTable;
            for (int free = 0; free < (1 << letters); free++) {
                for (int ones = 0; ones < (1 << letters); ones++) {
                    if ((free & ones) == 0) {
                        fill(free, ones);
                    }
                }
            }
        }

        /** A part by its free letters, and by those of the fixed ones that are 1. */
        private static int place(int free, int ones) {
            return ((free & 15) << 4) | (ones & 15);
        }

        /** The parts with fewer free letters stand already. */
        private void fill(int free, int ones) {
            int said = free == 0 ? Tables.answer(table, ones) : MIXED;
            int leastDepth = NONE;
            int leastWidth = NONE;
            for (int letter = 0; letter < letters; letter++) {
                int bit = 1 << letter;
                if ((free & bit) != 0) {
                    int no = place(free ^ bit, ones);
                    int yes = place(free ^ bit, ones | bit);
                    said = answers[no] == answers[yes] ? answers[no] : MIXED;
                    leastDepth = Math.min(leastDepth, 1 + Math.max(depths[no], depths[yes]));
                    leastWidth = Math.min(leastWidth, widths[no] + widths[yes]);
                }
            }
            answers[place(free, ones)] = said;
            depths[place(free, ones)] = said == MIXED ? leastDepth : 0;
            widths[place(free, ones)] = said == MIXED ? leastWidth : 1;
        }

        private int allLetters() {
            return (1 << letters) - 1;
        }

        int wholeDepth() {
            return depths[place(allLetters(), 0)];
        }

        int wholeWidth() {
            return widths[place(allLetters(), 0)];
        }

        /** -1 for a constant. */
        int firstQuestion() {
            if (answers[place(allLetters(), 0)] != MIXED) {
                return -1;
            }
            for (int letter = 0; letter < letters; letter++) {
                int rest = allLetters() ^ (1 << letter);
                int deeper = Math.max(depths[place(rest, 0)], depths[place(rest, 1 << letter)]);
                if (1 + deeper == wholeDepth()) {
                    return letter;
                }
            }
            return -1;
        }

        /** Whether all inputs that have at the set what the input has say the same. */
        boolean isPlainAt(int set, int input) {
            return answers[place(allLetters() & ~set, input & set)] != MIXED;
        }

        int leastCertificate(int input) {
            int best = allLetters();
            for (int set = 0; set < (1 << letters); set++) {
                // Only a smaller set takes the place, so of several the lowest number stays.
                boolean isSmaller = Integer.bitCount(set) < Integer.bitCount(best);
                if (isSmaller && isPlainAt(set, input)) {
                    best = set;
                }
            }
            return best;
        }

        int sumOfDepths(int keeps) {
            int sum = 0;
            for (int free = 0; free < (1 << letters); free++) {
                for (int ones = 0; ones < (1 << letters); ones++) {
                    if ((free & ones) == 0 && Integer.bitCount(free) == keeps) {
                        sum += depths[place(free, ones)];
                    }
                }
            }
            return sum;
        }

        /** A part of what a list tells has a list, too, so the first letter that a list can ask for does. */
        boolean hasList() {
            int free = allLetters();
            int ones = 0;
            for (int step = 0; step < letters; step++) {
                for (int letter = 0; letter < letters; letter++) {
                    int bit = 1 << letter;
                    if ((free & bit) != 0 && answers[place(free ^ bit, ones)] != MIXED) {
                        free ^= bit;
                        ones |= bit;
                    } else if ((free & bit) != 0 && answers[place(free ^ bit, ones | bit)] != MIXED) {
                        free ^= bit;
                    }
                }
            }
            return answers[place(free, ones)] != MIXED;
        }
    }

    /** The most blocks of which no two have a letter in common, within each set of letters. */
    private static final class Blocks {
        private final int[] most = new int[16];

        int mostAt(int letters, int table, int input) {
            int sets = Math.min(1 << letters, most.length);
            for (int set = 0; set < sets; set++) {
                int best = 0;
                int lowest = set & -set;
                for (int part = 1; part <= set; part++) {
                    // Some part has the lowest letter in each way to cut the set.
                    if ((part & ~set) == 0 && (part & lowest) != 0) {
                        int turned = Tables.answer(table, input ^ part) ^ Tables.answer(table, input);
                        best = Math.max(best, turned + most[set ^ part]);
                    }
                }
                most[set] = best;
            }
            return most[sets - 1];
        }
    }

    /** The least sizes of formulas of all functions of three letters, made when first asked for. */
    private static final class Formulas {
        private static final int MOST_SIZE = 16;
        private static final int TABLES = 256;

        private final boolean hasOpposites;
        private final int[] sizes = new int[TABLES];
        private final int[] rising = new int[TABLES];
        private final int[] ends = new int[MOST_SIZE + 1];
        private int found = 0;

        Formulas(boolean hasOpposites) {
            this.hasOpposites = hasOpposites;
        }

        /** -1 if there is none. */
        int sizeOf(int table) {
            if (table <= 0 || table >= TABLES - 1) {
                return 0;
            }
            if (found == 0) {
                makeAll();
            }
            return sizes[table] == 0 ? -1 : sizes[table];
        }

        private void makeAll() {
            for (int letter = 0; letter < 3; letter++) {
                offer(Tables.sumOf(3, 1 << letter), 1);
                // An opposite of a joint is the other joint of the opposites, so letters alone need it.
                if (hasOpposites) {
                    offer(Tables.opposite(3, Tables.sumOf(3, 1 << letter)), 1);
                }
            }
            ends[1] = found;
            for (int size = 2; size <= MOST_SIZE; size++) {
                for (int first = 1; 2 * first <= size && found < TABLES - 2; first++) {
                    joinAll(first, size - first, size);
                }
                ends[size] = found;
            }
        }

        private void joinAll(int first, int second, int size) {
            if (first < 1 || second < 1 || first > MOST_SIZE || second > MOST_SIZE) {
                return;
            }
            for (int one = ends[first - 1]; one < ends[first] && one < TABLES; one++) {
                for (int other = ends[second - 1]; other < ends[second] && other < TABLES; other++) {
                    offer(rising[one] & rising[other], size);
                    offer(rising[one] | rising[other], size);
                }
            }
        }

        private void offer(int table, int size) {
            boolean isConstant = table <= 0 || table >= TABLES - 1;
            if (!isConstant && sizes[table] == 0 && found < TABLES) {
                sizes[table] = size;
                rising[found] = table;
                found++;
            }
        }
    }

    /** The least numbers of gates of all functions of three letters, made when first asked for. */
    private static final class Circuits {
        static final int MOST_GATES = 3;
        private static final int TABLES = 256;
        private static final int LETTERS = 3;
        private static final int WAYS = 5;

        private final int[] counts = new int[TABLES];
        /** What the next gate can be of: the letters, then the gates ahead. */
        private final int[] sources = new int[LETTERS + MOST_GATES];
        private boolean isMade = false;

        /** One more than the most gates stands for all that need more. */
        int gatesOf(int table) {
            if (!isMade) {
                makeAll();
            }
            return counts[table & (TABLES - 1)];
        }

        private void makeAll() {
            isMade = true;
            for (int table = 0; table < TABLES; table++) {
                counts[table] = MOST_GATES + 1;
            }
            mark(0, 0);
            for (int letter = 0; letter < LETTERS; letter++) {
                sources[letter] = Tables.sumOf(LETTERS, 1 << letter);
                mark(sources[letter], 0);
            }
            addGate(0);
        }

        /** The last gate of a least circuit uses the one ahead of it, so other gates there make nothing new. */
        private void addGate(int ahead) {
            int ready = LETTERS + ahead;
            if (ahead >= MOST_GATES || ready >= sources.length) {
                return;
            }
            boolean isLast = ahead == MOST_GATES - 1;
            for (int high = isLast ? ready - 1 : 1; high < ready; high++) {
                for (int low = 0; low < high; low++) {
                    for (int way = 0; way < WAYS; way++) {
                        sources[ready] = made(sources[low], sources[high], way);
                        mark(sources[ready], ahead + 1);
                        addGate(ahead + 1);
                    }
                }
            }
        }

        /** Five of the ten functions: the others are their opposites, which serve as well. */
        private static int made(int one, int other, int way) {
            if (way == 0) {
                return one & other;
            }
            if (way == 1) {
                return one & ~other;
            }
            if (way == 2) {
                return ~one & other;
            }
            if (way == 3) {
                return one | other;
            }
            return one ^ other;
        }

        private void mark(int table, int gates) {
            int one = table & (TABLES - 1);
            int other = one ^ (TABLES - 1);
            counts[one] = Math.min(counts[one], gates);
            counts[other] = Math.min(counts[other], gates);
        }
    }

    /** The matrix of a talk, without rows and columns that are there already: none of its figures needs them. */
    private static final class Matrix {
        private static final int MOST_ROWS = 8;
        /** With four letters at most, no more rows and columns than these differ. */
        private static final int SIDE = 4;

        private final int[] rows = new int[MOST_ROWS];
        private final int[] spare = new int[MOST_ROWS];
        private final int[] cells = new int[SIDE * SIDE];
        private final int[] columnOf = new int[SIDE];
        private int rowCount = 0;
        private int columnCount = 0;

        void read(int letters, int table, int set) {
            int others = ((1 << letters) - 1) & ~set;
            rowCount = 0;
            for (int input = 0; input < (1 << letters); input++) {
                if ((input & ~set) == 0 && rowCount < MOST_ROWS) {
                    rows[rowCount] = rowAt(letters, table, input, others);
                    rowCount++;
                }
            }
            columnCount = 1 << Integer.bitCount(others);
            keepUnlikeRows();
            turnOver();
            keepUnlikeRows();
        }

        private static int rowAt(int letters, int table, int input, int others) {
            int row = 0;
            int column = 0;
            for (int other = 0; other < (1 << letters); other++) {
                if ((other & ~others) == 0) {
                    row |= Tables.answer(table, input | other) << column;
                    column++;
                }
            }
            return row;
        }

        private void keepUnlikeRows() {
            int kept = 0;
            for (int row = 0; row < rowCount && row < MOST_ROWS; row++) {
                boolean isNew = true;
                for (int ahead = 0; ahead < kept && ahead < MOST_ROWS; ahead++) {
                    isNew = isNew && rows[ahead] != rows[row];
                }
                if (isNew && kept < MOST_ROWS) {
                    rows[kept] = rows[row];
                    kept++;
                }
            }
            rowCount = kept;
        }

        /** Rows become columns. */
        private void turnOver() {
            for (int column = 0; column < columnCount && column < MOST_ROWS; column++) {
                spare[column] = 0;
                for (int row = 0; row < rowCount && row < MOST_ROWS; row++) {
                    spare[column] |= Tables.answer(rows[row], column) << row;
                }
            }
            int turned = columnCount;
            columnCount = rowCount;
            rowCount = turned;
            for (int row = 0; row < rowCount && row < MOST_ROWS; row++) {
                rows[row] = spare[row];
            }
        }

        private static int cell(int row, int column) {
            return ((row & 3) << 2) | (column & 3);
        }

        int rankOver(boolean isOverTwo) {
            int modulus = isOverTwo ? 2 : 3;
            for (int row = 0; row < SIDE; row++) {
                for (int column = 0; column < SIDE; column++) {
                    cells[cell(row, column)] = row < rowCount ? Tables.answer(rows[row], column) : 0;
                }
            }
            int rank = 0;
            for (int column = 0; column < SIDE; column++) {
                int pivot = pivotAt(rank, column);
                if (pivot < SIDE) {
                    exchange(rank, pivot);
                    clearBelow(rank, column, modulus);
                    rank++;
                }
            }
            return rank;
        }

        private int pivotAt(int from, int column) {
            for (int row = from; row < SIDE; row++) {
                if (cells[cell(row, column)] != 0) {
                    return row;
                }
            }
            return SIDE;
        }

        private void exchange(int one, int other) {
            for (int column = 0; column < SIDE; column++) {
                int moved = cells[cell(one, column)];
                cells[cell(one, column)] = cells[cell(other, column)];
                cells[cell(other, column)] = moved;
            }
        }

        private void clearBelow(int pivot, int column, int modulus) {
            for (int row = pivot + 1; row < SIDE; row++) {
                // Over two and over three each number but 0 is its own inverse.
                int times = cells[cell(row, column)] * cells[cell(pivot, column)];
                for (int each = 0; each < SIDE; each++) {
                    int rest = cells[cell(row, each)] - times * cells[cell(pivot, each)];
                    cells[cell(row, each)] = Math.floorMod(rest, modulus);
                }
            }
        }

        int greatestFooling() {
            return Math.max(mostPlaces(0, 0, 0), mostPlaces(0, 0, 1));
        }

        /** The rows ahead have chosen their columns, or none; a row with two places would fool nobody. */
        private int mostPlaces(int row, int chosen, int said) {
            if (row >= rowCount || row >= SIDE) {
                return chosen;
            }
            columnOf[row] = -1;
            int best = mostPlaces(row + 1, chosen, said);
            for (int column = 0; column < columnCount; column++) {
                if (Tables.answer(rows[row], column) == said && fools(row, column, said)) {
                    columnOf[row] = column;
                    best = Math.max(best, mostPlaces(row + 1, chosen + 1, said));
                }
            }
            return best;
        }

        private boolean fools(int row, int column, int said) {
            for (int ahead = 0; ahead < row && ahead < SIDE; ahead++) {
                if (columnOf[ahead] >= 0
                        && Tables.answer(rows[ahead], column) == said
                        && Tables.answer(rows[row], columnOf[ahead]) == said) {
                    return false;
                }
            }
            return true;
        }

        int cost() {
            int allRows = (1 << rowCount) - 1;
            int allColumns = (1 << columnCount) - 1;
            for (int bits = 0; bits < 3; bits++) {
                if (isTold(allRows, allColumns, bits)) {
                    return bits;
                }
            }
            // Two bits tell which of four rows it is, and one more the answer.
            return 3;
        }

        /** Whether so many bits are enough for the rows and columns that are left. */
        private boolean isTold(int rowSet, int columnSet, int bits) {
            if (isPlain(rowSet, columnSet)) {
                return true;
            }
            return bits > 0 && (isCut(rowSet, columnSet, bits, true) || isCut(columnSet, rowSet, bits, false));
        }

        /** Each cut has two sides, and the one with the lowest member names it. */
        private boolean isCut(int cut, int kept, int bits, boolean isByRows) {
            int lowest = cut & -cut;
            for (int part = 1; part < cut; part++) {
                if ((part & ~cut) == 0 && (part & lowest) != 0
                        && isSideTold(part, kept, bits - 1, isByRows)
                        && isSideTold(cut & ~part, kept, bits - 1, isByRows)) {
                    return true;
                }
            }
            return false;
        }

        private boolean isSideTold(int part, int kept, int bits, boolean isByRows) {
            return isByRows ? isTold(part, kept, bits) : isTold(kept, part, bits);
        }

        private boolean isPlain(int rowSet, int columnSet) {
            boolean hasNo = false;
            boolean hasYes = false;
            for (int row = 0; row < rowCount && row < MOST_ROWS; row++) {
                if (Tables.answer(rowSet, row) == 1) {
                    int part = rows[row] & columnSet;
                    hasYes = hasYes || part != 0;
                    hasNo = hasNo || part != columnSet;
                }
            }
            return !(hasNo && hasYes);
        }
    }

    /** The least weights of the function that was asked for last. */
    private static final class Thresholds {
        private static final int MOST = 3;
        private static final int NEVER = 13;
        private static final int NONE = 99;

        private final int[] tried = new int[4];
        private final int[] best = new int[4];
        private final int[] sums = new int[16];
        private int letters = 0;
        private int table = 0;
        private int bestAmount = NONE;
        private int bound = 0;

        boolean hasWeights(int newLetters, int newTable) {
            if (letters != newLetters || table != newTable) {
                letters = newLetters;
                table = newTable;
                bestAmount = NONE;
                sums[0] = 0;
                tryFrom(0, 0);
            }
            return bestAmount < NONE;
        }

        int leastWeight(int letter) {
            return letter < 0 || letter >= best.length ? 0 : best[letter];
        }

        int greatestBound() {
            return bound;
        }

        /** Weights rise letter by letter, so of those with the same amount the first stays. */
        private void tryFrom(int letter, int amount) {
            if (amount >= bestAmount) {
                return;
            }
            if (letter >= letters || letter >= tried.length) {
                takeIfFit(amount);
                return;
            }
            boolean rises = Tables.rises(table, letter) != 0;
            boolean falls = Tables.falls(table, letter) != 0;
            if (rises && falls) {
                return;
            }
            // A letter that turns no to yes needs a weight above 0, one that turns yes to no one below; others need none.
            int lowest = falls ? -MOST : rises ? 1 : 0;
            int highest = rises ? MOST : falls ? -1 : 0;
            for (int weight = lowest; weight <= highest; weight++) {
                tried[letter] = weight;
                for (int input = 0; input < (1 << letter); input++) {
                    sums[(input | (1 << letter)) & 15] = sums[input & 15] + weight;
                }
                tryFrom(letter + 1, amount + Math.abs(weight));
            }
        }

        private void takeIfFit(int amount) {
            int leastYes = NEVER;
            int greatestNo = -NEVER;
            for (int input = 0; input < (1 << letters) && input < sums.length; input++) {
                if (Tables.answer(table, input) == 1) {
                    leastYes = Math.min(leastYes, sums[input]);
                } else {
                    greatestNo = Math.max(greatestNo, sums[input]);
                }
            }
            if (leastYes > greatestNo) {
                bestAmount = amount;
                bound = leastYes;
                for (int letter = 0; letter < best.length; letter++) {
                    best[letter] = tried[letter];
                }
            }
        }
    }

    /** All monotone functions of 0 to 4 letters, one number of letters behind the other, made when first asked for. */
    private static final class Monotones {
        private final int[] made = new int[2 + 3 + 6 + 20 + 168];
        private final int[] ends = new int[5];
        private int found = 0;

        int countOf(int letters) {
            return end(letters) - end(letters - 1);
        }

        int leastDistance(int letters, int table) {
            int best = 1 << letters;
            int end = end(letters);
            for (int index = end(letters - 1); index < end && index < made.length; index++) {
                best = Math.min(best, Integer.bitCount(made[index] ^ table));
            }
            return best;
        }

        private int end(int letters) {
            if (found == 0) {
                makeAll();
            }
            return letters < 0 || letters >= ends.length ? 0 : ends[letters];
        }

        private void makeAll() {
            add(0);
            add(1);
            ends[0] = found;
            int begin = 0;
            for (int letters = 1; letters < ends.length; letters++) {
                int end = found;
                addPairs(begin, end, 1 << (letters - 1));
                begin = end;
                ends[letters] = found;
            }
        }

        /** With a letter more, both halves are monotone, and the one without it says no more often. */
        private void addPairs(int begin, int end, int half) {
            for (int low = begin; low < end && low < made.length; low++) {
                for (int high = begin; high < end && high < made.length; high++) {
                    if ((made[low] & ~made[high]) == 0) {
                        add(made[low] | (made[high] << half));
                    }
                }
            }
        }

        private void add(int table) {
            if (found < made.length) {
                made[found] = table;
                found++;
            }
        }
    }

    /** A set of functions, and how many inputs it shatters. */
    private static final class Sample {
        /** 24 functions are too few for all ways to answer at five inputs. */
        private static final int MOST_SHATTERED = 4;

        /** The functions that say yes, for each input. */
        private final int[] sayers = new int[16];
        /** The functions by their answers at the inputs chosen: each group cut in two by one more input stands behind. */
        private final int[] groups = new int[31];
        private int inputs = 0;

        void clear(int newInputs, int set) {
            inputs = Math.min(newInputs, sayers.length);
            groups[0] = set;
            for (int input = 0; input < sayers.length; input++) {
                sayers[input] = 0;
            }
        }

        void take(int function, int table) {
            for (int input = 0; input < inputs && input < sayers.length; input++) {
                sayers[input] |= Tables.answer(table, input) << function;
            }
        }

        int mostShattered() {
            return mostFrom(0, 0);
        }

        /** So many inputs are chosen, all before this one. */
        private int mostFrom(int chosen, int from) {
            if (chosen >= MOST_SHATTERED) {
                return chosen;
            }
            int best = chosen;
            for (int input = from; input < inputs && best < MOST_SHATTERED; input++) {
                if (cuts(chosen, input)) {
                    best = Math.max(best, mostFrom(chosen + 1, input + 1));
                }
            }
            return best;
        }

        /** Whether the functions of each group say both at the input. */
        private boolean cuts(int chosen, int input) {
            if (input < 0 || input >= sayers.length) {
                return false;
            }
            int first = (1 << chosen) - 1;
            for (int group = first; group <= 2 * first && 2 * group + 2 < groups.length; group++) {
                int yes = groups[group] & sayers[input];
                int no = groups[group] & ~sayers[input];
                if (yes == 0 || no == 0) {
                    return false;
                }
                groups[2 * group + 1] = no;
                groups[2 * group + 2] = yes;
            }
            return true;
        }
    }
}
