import java.util.ArrayList;
import java.util.HashMap;
import java.util.HashSet;
import java.util.List;
import java.util.Map;
import java.util.NoSuchElementException;
import java.util.Set;

/** The same laboratory, each answer worked out slowly by the words of the document, to compare with. */
final class PlainLab {
    /** A function as its answers, input by input. */
    static final class Plain {
        final int letters;
        final boolean[] yes;

        Plain(int letters, boolean[] yes) {
            this.letters = letters;
            this.yes = yes;
        }

        static Plain of(int letters, int table) {
            boolean[] yes = new boolean[1 << letters];
            for (int input = 0; input < yes.length; input++) {
                yes[input] = (table >> input & 1) == 1;
            }
            return new Plain(letters, yes);
        }

        int inputs() {
            return yes.length;
        }

        int table() {
            int table = 0;
            for (int input = 0; input < yes.length; input++) {
                table += yes[input] ? 1 << input : 0;
            }
            return table;
        }

        boolean isConstant() {
            for (boolean each : yes) {
                if (each != yes[0]) {
                    return false;
                }
            }
            return true;
        }

        boolean matters(int letter) {
            for (int input = 0; input < yes.length; input++) {
                if (yes[input] != yes[input ^ 1 << letter]) {
                    return true;
                }
            }
            return false;
        }

        Plain fixed(int letter, boolean isYes) {
            boolean[] rest = new boolean[yes.length / 2];
            int next = 0;
            for (int input = 0; input < yes.length; input++) {
                if (hasLetter(input, letter) == isYes) {
                    rest[next++] = yes[input];
                }
            }
            return new Plain(letters - 1, rest);
        }
    }

    private static boolean hasLetter(int input, int letter) {
        return (input >> letter & 1) == 1;
    }

    private final List<Plain> all = new ArrayList<>();
    private final List<Integer> weights = new ArrayList<>();
    private Plain hidden;
    private int hiddenInput;
    private Set<Integer> asked = new HashSet<>();

    // ---- refusals

    private Plain at(int function) {
        if (function < 0 || function >= all.size()) {
            throw new IndexOutOfBoundsException();
        }
        return all.get(function);
    }

    private static void letterOf(Plain plain, int letter) {
        demand(letter >= 0 && letter < plain.letters);
    }

    private static void inputOf(Plain plain, int input) {
        demand(input >= 0 && input < plain.inputs());
    }

    private static void demand(boolean isSo) {
        if (!isSo) {
            throw new IllegalArgumentException();
        }
    }

    private static void support(boolean isSo) {
        if (!isSo) {
            throw new UnsupportedOperationException();
        }
    }

    private int add(Plain plain) {
        if (all.size() == 24) {
            throw new IllegalStateException();
        }
        all.add(plain);
        return all.size() - 1;
    }

    private static void splitBy(Plain plain, int set) {
        inputOf(plain, set);
        demand(set != 0 && set != plain.inputs() - 1);
    }

    // ---- functions

    int table(int letters, int bits) {
        demand(letters >= 1 && letters <= 4);
        demand(bits >= 0 && bits < 1L << (1 << letters));
        return add(Plain.of(letters, bits));
    }

    int weigh(int weight) {
        demand(weight >= -9 && weight <= 9);
        if (weights.size() == 4) {
            throw new IllegalStateException();
        }
        weights.add(weight);
        return weights.size();
    }

    int threshold(int bound) {
        support(!weights.isEmpty());
        boolean[] yes = new boolean[1 << weights.size()];
        for (int input = 0; input < yes.length; input++) {
            int sum = 0;
            for (int letter = 0; letter < weights.size(); letter++) {
                sum += hasLetter(input, letter) ? weights.get(letter) : 0;
            }
            yes[input] = sum >= bound;
        }
        int number = add(new Plain(weights.size(), yes));
        weights.clear();
        return number;
    }

    int join(int one, int other, char by) {
        Plain first = at(one);
        Plain second = at(other);
        demand(by == 'a' || by == 'o' || by == 'x');
        support(first.letters == second.letters);
        boolean[] yes = new boolean[first.inputs()];
        for (int input = 0; input < yes.length; input++) {
            boolean a = first.yes[input];
            boolean b = second.yes[input];
            yes[input] = by == 'a' ? a && b : by == 'o' ? a || b : a != b;
        }
        return add(new Plain(first.letters, yes));
    }

    int turn(int function, char how) {
        Plain plain = at(function);
        demand(how == 'n' || how == 'd' || how == 'i');
        boolean[] yes = new boolean[plain.inputs()];
        for (int input = 0; input < yes.length; input++) {
            boolean straight = plain.yes[input];
            boolean turned = plain.yes[yes.length - 1 - input];
            yes[input] = how == 'n' ? !straight : how == 'd' ? !turned : turned;
        }
        return add(new Plain(plain.letters, yes));
    }

    int fix(int function, int letter, boolean isYes) {
        Plain plain = at(function);
        letterOf(plain, letter);
        support(plain.letters > 1);
        return add(plain.fixed(letter, isYes));
    }

    int compose(int one, int other) {
        Plain outer = at(one);
        Plain inner = at(other);
        int letters = outer.letters * inner.letters;
        support(letters <= 4);
        boolean[] yes = new boolean[1 << letters];
        for (int input = 0; input < yes.length; input++) {
            int rest = input;
            int outerInput = 0;
            for (int letter = 0; letter < outer.letters; letter++) {
                outerInput += inner.yes[rest % inner.inputs()] ? 1 << letter : 0;
                rest /= inner.inputs();
            }
            yes[input] = outer.yes[outerInput];
        }
        return add(new Plain(letters, yes));
    }

    int letters(int function) {
        return at(function).letters;
    }

    int bits(int function) {
        return at(function).table();
    }

    boolean says(int function, int input) {
        inputOf(at(function), input);
        return at(function).yes[input];
    }

    boolean matters(int function, int letter) {
        letterOf(at(function), letter);
        return at(function).matters(letter);
    }

    // ---- spectra

    private static int sign(int set, int input) {
        int sign = 1;
        for (int letter = 0; letter < 4; letter++) {
            if (hasLetter(set, letter) && hasLetter(input, letter)) {
                sign = -sign;
            }
        }
        return sign;
    }

    private static int waveOf(Plain plain, int set) {
        int sum = 0;
        for (int input = 0; input < plain.inputs(); input++) {
            sum += plain.yes[input] ? -sign(set, input) : sign(set, input);
        }
        return sum;
    }

    /** The products are found one by one by rising sets: each is in if those within its set do not sum up so far. */
    private static boolean[] products(Plain plain) {
        boolean[] isIn = new boolean[plain.inputs()];
        for (int set = 0; set < isIn.length; set++) {
            boolean sum = false;
            for (int within = 0; within < set; within++) {
                sum ^= (within & set) == within && isIn[within];
            }
            isIn[set] = sum != plain.yes[set];
        }
        return isIn;
    }

    int wave(int function, int set) {
        inputOf(at(function), set);
        return waveOf(at(function), set);
    }

    boolean isIn(int function, int set) {
        inputOf(at(function), set);
        return products(at(function))[set];
    }

    int degree(int function, boolean isOverTwo) {
        Plain plain = at(function);
        int most = 0;
        for (int set = 0; set < plain.inputs(); set++) {
            if (isOverTwo ? products(plain)[set] : waveOf(plain, set) != 0) {
                most = Math.max(most, Integer.bitCount(set));
            }
        }
        return most;
    }

    int influence(int function, int letter) {
        Plain plain = at(function);
        letterOf(plain, letter);
        int turning = 0;
        for (int input = 0; input < plain.inputs(); input++) {
            turning += plain.yes[input] != plain.yes[input ^ 1 << letter] ? 1 : 0;
        }
        return turning;
    }

    long stability(int function, int a, int b) {
        Plain plain = at(function);
        demand(b >= 1 && b <= 9 && a >= 0 && a <= b);
        long sum = 0;
        for (int set = 0; set < plain.inputs(); set++) {
            int size = Integer.bitCount(set);
            sum += (long) waveOf(plain, set) * waveOf(plain, set) * toThe(a, size) * toThe(b, plain.letters - size);
        }
        return sum;
    }

    private static long toThe(long base, int exponent) {
        return exponent == 0 ? 1 : base * toThe(base, exponent - 1);
    }

    boolean isBent(int function) {
        Set<Integer> amounts = new HashSet<>();
        for (int set = 0; set < at(function).inputs(); set++) {
            amounts.add(Math.abs(waveOf(at(function), set)));
        }
        return amounts.size() == 1;
    }

    // ---- trees

    static int depthOf(Plain plain) {
        if (plain.isConstant()) {
            return 0;
        }
        int best = 99;
        for (int letter = 0; letter < plain.letters; letter++) {
            best = Math.min(best, depthAsking(plain, letter));
        }
        return best;
    }

    private static int depthAsking(Plain plain, int letter) {
        return 1 + Math.max(depthOf(plain.fixed(letter, false)), depthOf(plain.fixed(letter, true)));
    }

    private static int widthOf(Plain plain) {
        int best = plain.isConstant() ? 1 : 99;
        for (int letter = 0; letter < plain.letters; letter++) {
            best = Math.min(best, widthOf(plain.fixed(letter, false)) + widthOf(plain.fixed(letter, true)));
        }
        return best;
    }

    int depth(int function) {
        return depthOf(at(function));
    }

    int width(int function) {
        return widthOf(at(function));
    }

    int question(int function) {
        Plain plain = at(function);
        for (int letter = 0; letter < plain.letters; letter++) {
            if (depthAsking(plain, letter) == depthOf(plain)) {
                return letter;
            }
        }
        throw new NoSuchElementException();
    }

    int hide(int function, int input) {
        inputOf(at(function), input);
        hidden = at(function);
        hiddenInput = input;
        asked = new HashSet<>();
        return depthOf(hidden);
    }

    private void demandTalk() {
        if (hidden == null) {
            throw new IllegalStateException();
        }
    }

    boolean ask(int letter) {
        demandTalk();
        letterOf(hidden, letter);
        asked.add(letter);
        return hasLetter(hiddenInput, letter);
    }

    int asked() {
        return asked.size();
    }

    boolean isSettled() {
        demandTalk();
        int set = 0;
        for (int letter : asked) {
            set |= 1 << letter;
        }
        return isCertificate(hidden, hiddenInput, set);
    }

    // ---- measures

    private static boolean isCertificate(Plain plain, int input, int set) {
        for (int other = 0; other < plain.inputs(); other++) {
            if ((other & set) == (input & set) && plain.yes[other] != plain.yes[input]) {
                return false;
            }
        }
        return true;
    }

    private static int certificateOf(Plain plain, int input) {
        int best = plain.inputs() - 1;
        for (int set = plain.inputs() - 1; set >= 0; set--) {
            if (isCertificate(plain, input, set) && Integer.bitCount(set) <= Integer.bitCount(best)) {
                best = set;
            }
        }
        return best;
    }

    private static int blocksOf(Plain plain, int input, int free) {
        int most = 0;
        for (int block = 1; block < plain.inputs(); block++) {
            if ((block & free) == block && plain.yes[input ^ block] != plain.yes[input]) {
                most = Math.max(most, 1 + blocksOf(plain, input, free ^ block));
            }
        }
        return most;
    }

    private static int measureOf(Plain plain, int input, char what) {
        if (what == 's') {
            int turning = 0;
            for (int letter = 0; letter < plain.letters; letter++) {
                turning += plain.yes[input] != plain.yes[input ^ 1 << letter] ? 1 : 0;
            }
            return turning;
        }
        return what == 'b'
                ? blocksOf(plain, input, plain.inputs() - 1)
                : Integer.bitCount(certificateOf(plain, input));
    }

    int measure(int function, char what) {
        Plain plain = at(function);
        demand(what == 's' || what == 'b' || what == 'c');
        int most = 0;
        for (int input = 0; input < plain.inputs(); input++) {
            most = Math.max(most, measureOf(plain, input, what));
        }
        return most;
    }

    int measureAt(int function, int input, char what) {
        inputOf(at(function), input);
        demand(what == 's' || what == 'b' || what == 'c');
        return measureOf(at(function), input, what);
    }

    int certificate(int function, int input) {
        inputOf(at(function), input);
        return certificateOf(at(function), input);
    }

    // ---- formulas and circuits

    private static final Map<String, Object> MADE = new HashMap<>();

    private static int letterTable(int letters, int letter) {
        int table = 0;
        for (int input = 0; input < 1 << letters; input++) {
            table += hasLetter(input, letter) ? 1 << input : 0;
        }
        return table;
    }

    /** Least sizes by table, found by joining all with all until nothing gets smaller. */
    private static int[] formulaSizes(int letters, boolean isMonotone) {
        String key = "formulas" + letters + isMonotone;
        if (MADE.containsKey(key)) {
            return (int[]) MADE.get(key);
        }
        int top = (1 << (1 << letters)) - 1;
        int[] sizes = new int[top + 1];
        java.util.Arrays.fill(sizes, 999);
        for (int letter = 0; letter < letters; letter++) {
            sizes[letterTable(letters, letter)] = 1;
        }
        boolean isSmaller = true;
        while (isSmaller) {
            isSmaller = false;
            for (int one = 1; one < top; one++) {
                if (!isMonotone) {
                    isSmaller |= lower(sizes, top ^ one, sizes[one]);
                }
                for (int other = 1; other < top; other++) {
                    isSmaller |= lower(sizes, one & other, sizes[one] + sizes[other]);
                    isSmaller |= lower(sizes, one | other, sizes[one] + sizes[other]);
                }
            }
        }
        sizes[0] = 0;
        sizes[top] = 0;
        MADE.put(key, sizes);
        return sizes;
    }

    private static boolean lower(int[] sizes, int table, int size) {
        if (size >= 999 || sizes[table] <= size) {
            return false;
        }
        sizes[table] = size;
        return true;
    }

    /** What formulas with each letter of the set just once can say. */
    @SuppressWarnings("unchecked")
    private static Set<Integer> readOnce(int letters, int set) {
        String key = "once" + letters + "," + set;
        if (MADE.containsKey(key)) {
            return (Set<Integer>) MADE.get(key);
        }
        int top = (1 << (1 << letters)) - 1;
        Set<Integer> found = new HashSet<>();
        if (Integer.bitCount(set) == 1) {
            found.add(letterTable(letters, Integer.numberOfTrailingZeros(set)));
        }
        for (int part = 1; part < set; part++) {
            if ((part & set) == part) {
                for (int one : readOnce(letters, part)) {
                    for (int other : readOnce(letters, set ^ part)) {
                        found.add(one & other);
                        found.add(one | other);
                    }
                }
            }
        }
        for (int table : new ArrayList<>(found)) {
            found.add(top ^ table);
        }
        MADE.put(key, found);
        return found;
    }

    /** By table, the least gates up to 3, otherwise 4. */
    private static int[] gateCounts(int letters) {
        String key = "gates" + letters;
        if (MADE.containsKey(key)) {
            return (int[]) MADE.get(key);
        }
        int top = (1 << (1 << letters)) - 1;
        int[] counts = new int[top + 1];
        java.util.Arrays.fill(counts, 4);
        List<Integer> sources = new ArrayList<>();
        for (int letter = 0; letter < letters; letter++) {
            sources.add(letterTable(letters, letter));
        }
        addGates(sources, letters, top, counts);
        counts[0] = 0;
        counts[top] = 0;
        for (int letter = 0; letter < letters; letter++) {
            counts[letterTable(letters, letter)] = 0;
            counts[top ^ letterTable(letters, letter)] = 0;
        }
        MADE.put(key, counts);
        return counts;
    }

    private static void addGates(List<Integer> sources, int letters, int top, int[] counts) {
        int gates = sources.size() - letters;
        if (gates > 0) {
            int last = sources.get(sources.size() - 1);
            counts[last] = Math.min(counts[last], gates);
        }
        if (gates == 3) {
            return;
        }
        for (int one = 0; one < sources.size(); one++) {
            for (int other = one + 1; other < sources.size(); other++) {
                for (int way = 0; way < 16; way++) {
                    if (Plain.of(2, way).matters(0) && Plain.of(2, way).matters(1)) {
                        int gate = 0;
                        for (int input = 0; input < 1 << letters; input++) {
                            int two = (sources.get(one) >> input & 1) + 2 * (sources.get(other) >> input & 1);
                            gate += (way >> two & 1) << input;
                        }
                        sources.add(gate);
                        addGates(sources, letters, top, counts);
                        sources.remove(sources.size() - 1);
                    }
                }
            }
        }
    }

    int formula(int function, boolean isMonotone) {
        Plain plain = at(function);
        support(plain.letters <= 3);
        int size = formulaSizes(plain.letters, isMonotone)[plain.table()];
        if (size == 999) {
            throw new NoSuchElementException();
        }
        return size;
    }

    boolean isReadOnce(int function) {
        Plain plain = at(function);
        support(plain.letters <= 3);
        int set = 0;
        for (int letter = 0; letter < plain.letters; letter++) {
            set += plain.matters(letter) ? 1 << letter : 0;
        }
        return plain.isConstant() || readOnce(plain.letters, set).contains(plain.table());
    }

    int gates(int function) {
        Plain plain = at(function);
        support(plain.letters <= 3);
        int count = gateCounts(plain.letters)[plain.table()];
        if (count > 3) {
            throw new NoSuchElementException();
        }
        return count;
    }

    // ---- talks

    private static boolean[][] matrixOf(Plain plain, int set) {
        List<Integer> ones = new ArrayList<>();
        List<Integer> others = new ArrayList<>();
        for (int input = 0; input < plain.inputs(); input++) {
            if ((input & set) == input) {
                ones.add(input);
            }
            if ((input & set) == 0) {
                others.add(input);
            }
        }
        boolean[][] matrix = new boolean[ones.size()][others.size()];
        for (int row = 0; row < ones.size(); row++) {
            for (int column = 0; column < others.size(); column++) {
                matrix[row][column] = plain.yes[ones.get(row) + others.get(column)];
            }
        }
        return matrix;
    }

    /** There are as many sums of rows as the modulus to the power of the rank. */
    int rank(int function, int set, boolean isOverTwo) {
        splitBy(at(function), set);
        boolean[][] matrix = matrixOf(at(function), set);
        int modulus = isOverTwo ? 2 : 3;
        Set<List<Integer>> sums = new HashSet<>();
        List<Integer> zero = new ArrayList<>();
        for (int column = 0; column < matrix[0].length; column++) {
            zero.add(0);
        }
        sums.add(zero);
        for (boolean[] row : matrix) {
            Set<List<Integer>> more = new HashSet<>();
            for (List<Integer> sum : sums) {
                for (int times = 0; times < modulus; times++) {
                    List<Integer> next = new ArrayList<>();
                    for (int column = 0; column < row.length; column++) {
                        next.add((sum.get(column) + (row[column] ? times : 0)) % modulus);
                    }
                    more.add(next);
                }
            }
            sums = more;
        }
        int rank = 0;
        for (int size = sums.size(); size > 1; size /= modulus) {
            rank++;
        }
        return rank;
    }

    int fooling(int function, int set) {
        splitBy(at(function), set);
        boolean[][] matrix = matrixOf(at(function), set);
        return Math.max(fooled(matrix, true, 0, new ArrayList<>()), fooled(matrix, false, 0, new ArrayList<>()));
    }

    private static int fooled(boolean[][] matrix, boolean answer, int from, List<int[]> places) {
        int best = places.size();
        int columns = matrix[0].length;
        for (int place = from; place < matrix.length * columns; place++) {
            int row = place / columns;
            int column = place % columns;
            boolean fits = matrix[row][column] == answer;
            for (int[] other : places) {
                fits &= matrix[row][other[1]] != answer || matrix[other[0]][column] != answer;
            }
            if (fits) {
                places.add(new int[] {row, column});
                best = Math.max(best, fooled(matrix, answer, place + 1, places));
                places.remove(places.size() - 1);
            }
        }
        return best;
    }

    int talk(int function, int set) {
        splitBy(at(function), set);
        boolean[][] matrix = matrixOf(at(function), set);
        return cost(matrix, (1 << matrix.length) - 1, (1 << matrix[0].length) - 1, new HashMap<>());
    }

    private static int cost(boolean[][] matrix, int rows, int columns, Map<Integer, Integer> known) {
        Integer before = known.get(rows << 8 | columns);
        if (before != null) {
            return before;
        }
        boolean[] said = new boolean[2];
        for (int row = 0; row < matrix.length; row++) {
            for (int column = 0; column < matrix[0].length; column++) {
                if (hasLetter(rows, row) && hasLetter(columns, column)) {
                    said[matrix[row][column] ? 1 : 0] = true;
                }
            }
        }
        int best = said[0] && said[1] ? 99 : 0;
        for (int part = 1; part < rows && best > 0; part++) {
            if ((part & rows) == part) {
                best = Math.min(best, 1 + Math.max(cost(matrix, part, columns, known), cost(matrix, rows ^ part, columns, known)));
            }
        }
        for (int part = 1; part < columns && best > 0; part++) {
            if ((part & columns) == part) {
                best = Math.min(best, 1 + Math.max(cost(matrix, rows, part, known), cost(matrix, rows, columns ^ part, known)));
            }
        }
        known.put(rows << 8 | columns, best);
        return best;
    }

    // ---- thresholds, tests

    /** The least weights of each table that has some, then the bound. */
    @SuppressWarnings("unchecked")
    private static Map<Integer, int[]> leastWeights(int letters) {
        String key = "weights" + letters;
        if (MADE.containsKey(key)) {
            return (Map<Integer, int[]>) MADE.get(key);
        }
        Map<Integer, int[]> found = new HashMap<>();
        int ways = (int) toThe(7, letters);
        for (int way = 0; way < ways; way++) {
            int[] tried = new int[letters + 1];
            int rest = way;
            for (int letter = letters - 1; letter >= 0; letter--) {
                tried[letter] = rest % 7 - 3;
                rest /= 7;
            }
            for (int bound = 13; bound >= -13; bound--) {
                int table = 0;
                for (int input = 0; input < 1 << letters; input++) {
                    int sum = 0;
                    for (int letter = 0; letter < letters; letter++) {
                        sum += hasLetter(input, letter) ? tried[letter] : 0;
                    }
                    table += sum >= bound ? 1 << input : 0;
                }
                int[] whole = tried.clone();
                whole[letters] = bound;
                if (!found.containsKey(table) || amount(whole, letters) < amount(found.get(table), letters)) {
                    found.put(table, whole);
                }
            }
        }
        MADE.put(key, found);
        return found;
    }

    private static int amount(int[] weights, int letters) {
        int amount = 0;
        for (int letter = 0; letter < letters; letter++) {
            amount += Math.abs(weights[letter]);
        }
        return amount;
    }

    boolean isThreshold(int function) {
        return leastWeights(at(function).letters).containsKey(at(function).table());
    }

    int weight(int function, int index) {
        Plain plain = at(function);
        demand(index >= 0 && index <= plain.letters);
        if (!isThreshold(function)) {
            throw new NoSuchElementException();
        }
        return leastWeights(plain.letters).get(plain.table())[index];
    }

    int distance(int one, int other) {
        Plain first = at(one);
        Plain second = at(other);
        support(first.letters == second.letters);
        int unlike = 0;
        for (int input = 0; input < first.inputs(); input++) {
            unlike += first.yes[input] != second.yes[input] ? 1 : 0;
        }
        return unlike;
    }

    private static boolean isMonotoneOne(Plain plain) {
        for (int input = 0; input < plain.inputs(); input++) {
            for (int letter = 0; letter < plain.letters; letter++) {
                if (plain.yes[input] && !plain.yes[input | 1 << letter]) {
                    return false;
                }
            }
        }
        return true;
    }

    private static boolean isOfKind(Plain plain, char kind) {
        if (kind == 'm') {
            return isMonotoneOne(plain);
        }
        if (kind == 'j') {
            int mattering = 0;
            for (int letter = 0; letter < plain.letters; letter++) {
                mattering += plain.matters(letter) ? 1 : 0;
            }
            return mattering <= 2;
        }
        if (kind == 'd') {
            for (int letter = 0; letter < plain.letters; letter++) {
                if (plain.table() == letterTable(plain.letters, letter)) {
                    return true;
                }
            }
            return false;
        }
        for (int set = 0; set < plain.inputs(); set++) {
            boolean isSum = true;
            boolean isOpposite = true;
            for (int input = 0; input < plain.inputs(); input++) {
                isSum &= plain.yes[input] == (sign(set, input) < 0);
                isOpposite &= plain.yes[input] != (sign(set, input) < 0);
            }
            if (isSum || isOpposite) {
                return true;
            }
        }
        return false;
    }

    private static int[] kindOf(int letters, char kind) {
        String key = "kind" + letters + kind;
        if (!MADE.containsKey(key)) {
            List<Integer> members = new ArrayList<>();
            for (int table = 0; table < 1 << (1 << letters); table++) {
                if (isOfKind(Plain.of(letters, table), kind)) {
                    members.add(table);
                }
            }
            MADE.put(key, members.stream().mapToInt(Integer::intValue).toArray());
        }
        return (int[]) MADE.get(key);
    }

    int far(int function, char kind) {
        Plain plain = at(function);
        demand(kind == 'l' || kind == 'm' || kind == 'd' || kind == 'j');
        int best = 99;
        for (int member : kindOf(plain.letters, kind)) {
            best = Math.min(best, Integer.bitCount(member ^ plain.table()));
        }
        return best;
    }

    int passes(int function) {
        Plain plain = at(function);
        int passed = 0;
        for (int one = 0; one < plain.inputs(); one++) {
            for (int other = 0; other < plain.inputs(); other++) {
                passed += plain.yes[one ^ other] == (plain.yes[one] != plain.yes[other]) ? 1 : 0;
            }
        }
        return passed;
    }

    // ---- learning, games

    private List<Plain> membersOf(int set) {
        List<Plain> members = new ArrayList<>();
        for (int function = 0; function < 32; function++) {
            if (hasLetter(set, function)) {
                members.add(at(function));
            }
        }
        return members;
    }

    private static void demandAlike(List<Plain> members) {
        for (Plain member : members) {
            support(member.letters == members.get(0).letters);
        }
    }

    int dimension(int set) {
        List<Plain> members = membersOf(set);
        demandAlike(members);
        if (members.isEmpty()) {
            return -1;
        }
        int most = 0;
        for (int inputs = 0; inputs < 1 << members.get(0).inputs(); inputs++) {
            // So many ways need as many functions.
            if (Integer.bitCount(inputs) > most && 1 << Integer.bitCount(inputs) <= members.size()) {
                Set<Integer> ways = new HashSet<>();
                for (Plain member : members) {
                    ways.add(member.table() & inputs);
                }
                if (ways.size() == 1 << Integer.bitCount(inputs)) {
                    most = Integer.bitCount(inputs);
                }
            }
        }
        return most;
    }

    int left(int set, int function, int inputs) {
        Plain plain = at(function);
        List<Plain> members = membersOf(set);
        members.add(plain);
        demandAlike(members);
        demand(inputs >= 0 && inputs < 1L << plain.inputs());
        int agreeing = 0;
        for (int each = 0; each < all.size(); each++) {
            boolean agrees = hasLetter(set, each);
            for (int input = 0; input < plain.inputs(); input++) {
                agrees = agrees && (!hasLetter(inputs, input) || at(each).yes[input] == plain.yes[input]);
            }
            agreeing += agrees ? 1 << each : 0;
        }
        return agreeing;
    }

    boolean isMonotone(int function) {
        return isMonotoneOne(at(function));
    }

    int least(int function, int index) {
        Plain plain = at(function);
        List<Integer> found = new ArrayList<>();
        for (int input = 0; input < plain.inputs(); input++) {
            boolean isLeast = plain.yes[input];
            for (int other = 0; other < plain.inputs(); other++) {
                isLeast &= other == input || (other & input) != other || !plain.yes[other];
            }
            if (isLeast) {
                found.add(input);
            }
        }
        if (index < 0 || index >= found.size()) {
            throw new NoSuchElementException();
        }
        return found.get(index);
    }

    int monotones(int letters) {
        demand(letters >= 1 && letters <= 4);
        return kindOf(letters, 'm').length;
    }

    int swings(int function, int letter) {
        Plain plain = at(function);
        letterOf(plain, letter);
        int swings = 0;
        for (int input = 0; input < plain.inputs(); input++) {
            swings += !hasLetter(input, letter) && !plain.yes[input] && plain.yes[input | 1 << letter] ? 1 : 0;
        }
        return swings;
    }

    private static List<List<Integer>> orders(int letters) {
        List<List<Integer>> orders = new ArrayList<>();
        if (letters == 0) {
            orders.add(new ArrayList<>());
            return orders;
        }
        for (List<Integer> shorter : orders(letters - 1)) {
            for (int place = 0; place <= shorter.size(); place++) {
                List<Integer> order = new ArrayList<>(shorter);
                order.add(place, letters - 1);
                orders.add(order);
            }
        }
        return orders;
    }

    int power(int function, int letter) {
        Plain plain = at(function);
        letterOf(plain, letter);
        int power = 0;
        for (List<Integer> order : orders(plain.letters)) {
            int input = 0;
            for (int each : order) {
                int next = input | 1 << each;
                if (each == letter && plain.yes[input] != plain.yes[next]) {
                    power += plain.yes[next] ? 1 : -1;
                }
                input = next;
            }
        }
        return power;
    }

    // ---- likeness, restrictions

    private static int likenessOf(Plain plain) {
        int best = Integer.MAX_VALUE;
        for (List<Integer> order : orders(plain.letters)) {
            for (int turned = 0; turned < plain.inputs(); turned++) {
                int table = 0;
                for (int input = 0; input < plain.inputs(); input++) {
                    int other = 0;
                    for (int letter = 0; letter < plain.letters; letter++) {
                        other += hasLetter(input, letter) ? 1 << order.get(letter) : 0;
                    }
                    table += plain.yes[other ^ turned] ? 1 << input : 0;
                }
                best = Math.min(best, Math.min(table, (1 << plain.inputs()) - 1 - table));
            }
        }
        return best;
    }

    int likeness(int function) {
        return likenessOf(at(function));
    }

    boolean areLike(int one, int other) {
        Plain first = at(one);
        Plain second = at(other);
        return first.letters == second.letters && likenessOf(first) == likenessOf(second);
    }

    int restricted(int function, int keeps) {
        Plain plain = at(function);
        demand(keeps >= 0 && keeps <= plain.letters);
        int sum = 0;
        for (int kept = 0; kept < plain.inputs(); kept++) {
            if (Integer.bitCount(kept) == keeps) {
                for (int ones = 0; ones < plain.inputs(); ones++) {
                    sum += (ones & kept) == 0 ? depthOf(fixedAll(plain, kept, ones)) : 0;
                }
            }
        }
        return sum;
    }

    private static Plain fixedAll(Plain plain, int kept, int ones) {
        Plain rest = plain;
        for (int letter = plain.letters - 1; letter >= 0; letter--) {
            if (!hasLetter(kept, letter)) {
                rest = rest.letters == 0 ? rest : rest.fixed(letter, hasLetter(ones, letter));
            }
        }
        return rest;
    }

    /** All tables that lists tell. */
    @SuppressWarnings("unchecked")
    private static Set<Integer> lists(int letters) {
        String key = "lists" + letters;
        if (!MADE.containsKey(key)) {
            Set<Integer> found = new HashSet<>();
            goOn(letters, (1 << letters) - 1, (1 << (1 << letters)) - 1, 0, found);
            MADE.put(key, found);
        }
        return (Set<Integer>) MADE.get(key);
    }

    private static void goOn(int letters, int unasked, int open, int table, Set<Integer> found) {
        found.add(table);
        found.add(table | open);
        for (int letter = 0; letter < letters; letter++) {
            if (hasLetter(unasked, letter)) {
                int with = letterTable(letters, letter);
                int rest = unasked ^ 1 << letter;
                goOn(letters, rest, open & ~with, table, found);
                goOn(letters, rest, open & ~with, table | open & with, found);
                goOn(letters, rest, open & with, table, found);
                goOn(letters, rest, open & with, table | open & ~with, found);
            }
        }
    }

    boolean isList(int function) {
        return lists(at(function).letters).contains(at(function).table());
    }

    // ---- figures

    int functions() {
        return all.size();
    }

    float meanInfluence(int function) {
        int sum = 0;
        for (int letter = 0; letter < at(function).letters; letter++) {
            sum += influence(function, letter);
        }
        return (float) sum / (float) at(function).inputs();
    }

    int meanBits(int function) {
        return Float.floatToIntBits(meanInfluence(function));
    }

    double yesShare() {
        if (all.isEmpty()) {
            throw new ArithmeticException();
        }
        int yes = 0;
        int inputs = 0;
        for (Plain plain : all) {
            yes += Integer.bitCount(plain.table());
            inputs += plain.inputs();
        }
        return (double) yes / (double) inputs;
    }

    long checksum() {
        long sum = 7;
        for (Plain plain : all) {
            sum = sum * 31 + plain.table() + 65536L * plain.letters;
        }
        return sum;
    }
}
