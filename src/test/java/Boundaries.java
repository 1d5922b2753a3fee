import java.io.IOException;
import java.nio.file.Files;
import java.nio.file.Path;
import java.util.ArrayList;
import java.util.HashSet;
import java.util.LinkedHashSet;
import java.util.List;
import java.util.Set;

/** What tests of the document's sentences share; a refused call is tested by all that is answered after it. */
abstract class Boundaries {
    static final Object INDEX = Check.refusal("IndexOutOfBoundsException");
    static final Object ARGUMENT = Check.refusal("IllegalArgumentException");
    static final Object STATE = Check.refusal("IllegalStateException");
    static final Object UNSUPPORTED = Check.refusal("UnsupportedOperationException");
    static final Object NO_SUCH = Check.refusal("NoSuchElementException");
    static final Object ARITHMETIC = Check.refusal("ArithmeticException");

    /** The figures of a laboratory. */
    static final int MOST_FUNCTIONS = 24;
    static final int[] ALWAYS = {1, 3, 15, 255, 65535};
    /** The table of the letter 0 alone, by the number of letters, and that of the last letter alone. */
    static final int[] FIRST_LETTER = {0, 2, 0xA, 0xAA, 0xAAAA};
    static final int[] LAST_LETTER = {0, 2, 0xC, 0xF0, 0xFF00};
    /** The table of the sum of all letters by odd and even, by the number of letters. */
    static final int[] SUM_OF_ALL = {0, 2, 6, 0x96, 0x6996};

    /** Calls of one laboratory, of which the last one's answer counts. */
    interface Deed {
        Object on(YesNoLab lab);
    }

    interface ByNumber {
        Object on(YesNoLab lab, int number);
    }

    interface ByTwo {
        Object on(YesNoLab lab, int one, int other);
    }

    interface BySign {
        Object on(YesNoLab lab, char sign);
    }

    /** A laboratory as it is made. */
    static final Deed NEW = lab -> 0;
    /** A function of each number of letters, one below that number; two weights; a talk under way. */
    static final Deed SOME = Boundaries::some;
    /** The same with 24 functions. */
    static final Deed FULL = upTo(SOME, MOST_FUNCTIONS);

    private static final Path DOCUMENT = Path.of("../shared/DOC.md");
    /** One refused call is as good as another, but an object answers for 512 calls only. */
    private static final int MOST_REFUSED = 300;
    /** With the weights 9 and -4 these bounds tell each sum of them from those next to it. */
    static final int[] BOUNDS = {-4, -3, 0, 1, 5, 6, 9, 10};

    private final Check check = new Check();
    private final String[] parts = Files.readString(DOCUMENT).split("(?m)^## ");
    private final Set<String> tested = new HashSet<>();
    private String heading = "";
    private String part = "";
    private String sentence = "";

    Boundaries() throws IOException {
    }

    static Object some(YesNoLab lab) {
        lab.table(1, 2);
        lab.table(2, 6);
        lab.table(3, 0xCA);
        lab.table(4, 0xF888);
        lab.weigh(9);
        lab.weigh(-4);
        lab.hide(2, 5);
        return lab.ask(2);
    }

    /** So made, with more functions up to this number. */
    static Deed upTo(Deed made, int functions) {
        return lab -> {
            made.on(lab);
            for (int more = lab.functions(); more < functions; more++) {
                lab.table(4, 0x1234 + more);
            }
            return lab.functions();
        };
    }

    /** A laboratory with these functions of so many letters. */
    static Deed tables(int letters, int... tables) {
        return lab -> {
            for (int table : tables) {
                lab.table(letters, table);
            }
            return lab.functions();
        };
    }

    /** Numbers outside a range: the next ones, the ends of int, and what a shift or a cast takes for one inside. */
    static int[] beyond(int lowest, int highest) {
        Set<Integer> all = new LinkedHashSet<>(List.of(lowest - 1, highest + 1, lowest - 2, highest + 2));
        for (int bit = 4; bit < 32; bit++) {
            all.add(lowest + (1 << bit));
            all.add(highest + (1 << bit));
            all.add(lowest - (1 << bit));
            all.add(highest - (1 << bit));
        }
        all.addAll(List.of(Integer.MIN_VALUE, Integer.MIN_VALUE + 1, Integer.MAX_VALUE - 1, Integer.MAX_VALUE));
        return all.stream().mapToInt(each -> each).filter(each -> each < lowest || each > highest).toArray();
    }

    // ---- sentences

    void promise(int number) {
        under("Promise " + number + ":");
    }

    void under(String newHeading) {
        heading = newHeading;
        part = "";
        for (String each : parts) {
            if (each.startsWith(heading)) {
                part = inOneLine(each);
            }
        }
        String found = part;
        check.due("the document has the part " + heading, false, () -> found.isEmpty());
    }

    /** The checks that follow are the test of this sentence. */
    void says(String words) {
        sentence = words;
        tested.add(heading + inOneLine(words));
        check.due(heading + " says: " + words, true, () -> part.contains(inOneLine(words)));
    }

    private static String inOneLine(String text) {
        return text.replaceAll("\\s+", " ");
    }

    /** Each line of these promises, and what each call is said to do, has a test. */
    void eachSentenceIsTested(int firstPromise, int lastPromise) {
        for (int number = firstPromise; number <= lastPromise; number++) {
            String begin = "Promise " + number + ":";
            for (String each : parts) {
                if (each.startsWith(begin)) {
                    for (String line : each.split("\n")) {
                        String words = line.replaceFirst("^`[^`]*`: ", "");
                        boolean isSentence = !line.isBlank() && !line.startsWith(begin);
                        check.due("a test of " + begin + " " + words, true,
                                () -> !isSentence || tested.contains(begin + inOneLine(words)));
                    }
                }
            }
        }
    }

    void end() {
        check.end();
    }

    // ---- checks

    void due(Deed made, Object want, Deed call) {
        YesNoLab lab = new YesNoLab();
        made.on(lab);
        check.due(name(), want, () -> call.on(lab));
    }

    /** After each of the refused calls all answers are those of a laboratory without it. */
    void refused(Deed made, Object exception, Deed... calls) {
        for (Deed call : calls) {
            refusedInOneGo(made, exception, List.of(call));
        }
    }

    private void refusedInOneGo(Deed made, Object exception, List<Deed> calls) {
        String name = name();
        for (int bound : BOUNDS) {
            YesNoLab lab = new YesNoLab();
            made.on(lab);
            for (Deed call : calls) {
                check.due(name, exception, () -> call.on(lab));
            }
            YesNoLab other = new YesNoLab();
            made.on(other);
            if (other.functions() == MOST_FUNCTIONS && bound != BOUNDS[0]) {
                // Without room for a threshold all bounds are one.
                return;
            }
            check.due(name + ", answers after it", later(other, bound), () -> later(lab, bound));
        }
    }

    void refusedNumbers(Deed made, Object exception, int[] numbers, ByNumber call) {
        List<Deed> calls = new ArrayList<>();
        for (int number : numbers) {
            calls.add(lab -> call.on(lab, number));
        }
        refusedInOneGo(made, exception, calls);
    }

    /** The right signs are taken, each other char is refused. */
    void signs(Deed made, String right, BySign call) {
        for (char sign : right.toCharArray()) {
            YesNoLab lab = new YesNoLab();
            made.on(lab);
            check.due(name() + " by " + sign, false, () -> ARGUMENT.equals(Check.outcome(() -> call.on(lab, sign))));
        }
        List<Deed> calls = new ArrayList<>();
        for (int code = Character.MIN_VALUE; code <= Character.MAX_VALUE; code++) {
            char sign = (char) code;
            if (right.indexOf(sign) < 0) {
                calls.add(lab -> call.on(lab, sign));
            }
            if (calls.size() == MOST_REFUSED || code == Character.MAX_VALUE) {
                refusedInOneGo(made, ARGUMENT, calls);
                calls.clear();
            }
        }
    }

    /** What a laboratory answers from now on. */
    static List<Object> later(YesNoLab lab, int bound) {
        List<Object> answers = new ArrayList<>();
        answers.add(lab.functions());
        answers.add(lab.checksum());
        answers.add(lab.asked());
        answers.add(Check.outcome(() -> lab.isSettled()));
        for (int each = 0; each <= MOST_FUNCTIONS; each++) {
            int function = each;
            answers.add(Check.outcome(() -> lab.letters(function)));
            answers.add(Check.outcome(() -> lab.bits(function)));
        }
        for (int each = 0; each <= 4; each++) {
            int letter = each;
            answers.add(Check.outcome(() -> lab.ask(letter)));
            answers.add(lab.asked());
            answers.add(Check.outcome(() -> lab.isSettled()));
        }
        for (int each = 0; each < 4; each++) {
            int function = each;
            answers.add(Check.outcome(() -> lab.depth(function)));
            answers.add(Check.outcome(() -> lab.weight(function, 1)));
            answers.add(Check.outcome(() -> lab.talk(function, 2)));
            answers.add(Check.outcome(() -> lab.likeness(function)));
        }
        answers.add(Check.outcome(() -> lab.threshold(bound)));
        answers.add(lab.checksum());
        answers.add(Check.outcome(() -> lab.weigh(1)));
        answers.add(Check.outcome(() -> lab.table(2, 9)));
        answers.add(Check.outcome(() -> lab.hide(3, 9)));
        answers.add(Check.outcome(() -> lab.asked()));
        answers.add(lab.checksum());
        answers.add(lab.isSound());
        return answers;
    }

    /** The sentence, and the line of the test that checks it. */
    private String name() {
        String line = StackWalker.getInstance().walk(frames -> frames
                .filter(frame -> frame.getClassName().endsWith("Test"))
                .findFirst().map(frame -> frame.getClassName() + ", line " + frame.getLineNumber()).orElse("?"));
        return heading + " " + sentence + " (" + line + ")";
    }

    // ---- what many promises say alike

    /** The numbers of functions, from 0 to one below how many there are; the answer is that of the table 0xCA. */
    void byFunction(Object want, ByNumber call, ByNumber alsoWrong) {
        byFunctionAmong(MOST_FUNCTIONS, 3, 0xCA, want, call, alsoWrong);
    }

    /** For calls that add a function: one place is left for it. */
    void byFunctionWithRoom(Object want, ByNumber call, ByNumber alsoWrong) {
        byFunctionAmong(MOST_FUNCTIONS - 1, 3, 0xCA, want, call, alsoWrong);
    }

    /** For calls that answer for the table 0xCA what they answer for constants. */
    void byFunctionOf(int letters, int table, Object want, ByNumber call, ByNumber alsoWrong) {
        byFunctionAmong(MOST_FUNCTIONS, letters, table, want, call, alsoWrong);
    }

    private void byFunctionAmong(
            int functions, int letters, int table, Object want, ByNumber call, ByNumber alsoWrong) {
        Deed made = oneAmong(functions, letters, table);
        says("- `function`: the number of the function");
        due(tables(letters, table), want, lab -> call.on(lab, 0));
        due(made, want, lab -> call.on(lab, functions - 1));
        refused(made, INDEX, lab -> call.on(lab, functions), lab -> call.on(lab, -1));

        says("Throws `IndexOutOfBoundsException` if there is no such function");
        noSuchFunction(call);
        noSuchFunction(alsoWrong);
    }

    /** The last one of so many functions; all others are constant. */
    private static Deed oneAmong(int functions, int letters, int table) {
        return lab -> {
            for (int more = 1; more < functions; more++) {
                lab.table(3 + more % 2, 0);
            }
            return lab.table(letters, table);
        };
    }

    private void noSuchFunction(ByNumber call) {
        refused(NEW, INDEX, lab -> call.on(lab, 0));
        refusedNumbers(SOME, INDEX, beyond(0, 3), call);
        refusedNumbers(FULL, INDEX, beyond(0, MOST_FUNCTIONS - 1), call);
    }

    /** The same for two functions; the call is of functions of this table, all others are constant, of four letters. */
    void byTwo(int letters, int table, Object want, ByTwo call, ByTwo alsoWrong) {
        Deed many = lab -> {
            lab.table(letters, table);
            for (int more = 2; more < MOST_FUNCTIONS - 1; more++) {
                lab.table(4, more % 2 * 65535);
            }
            return lab.table(letters, table);
        };
        says("- `one`: the number of a function");
        due(tables(letters, table, table), want, lab -> call.on(lab, 0, 1));
        due(many, want, lab -> call.on(lab, 22, 0));
        refused(many, INDEX, lab -> call.on(lab, 23, 0), lab -> call.on(lab, -1, 0));

        says("- `other`: that of another one, or the same");
        due(tables(letters, table), want, lab -> call.on(lab, 0, 0));
        due(many, want, lab -> call.on(lab, 0, 22));
        due(many, want, lab -> call.on(lab, 22, 22));
        refused(many, INDEX, lab -> call.on(lab, 0, 23), lab -> call.on(lab, 0, -1));

        says("Throws `IndexOutOfBoundsException` if there is no such function, for either");
        noSuchFunction((lab, number) -> call.on(lab, number, 0));
        noSuchFunction((lab, number) -> call.on(lab, 0, number));
        noSuchFunction((lab, number) -> call.on(lab, number, number));
        noSuchFunction((lab, number) -> alsoWrong.on(lab, number, 0));
        noSuchFunction((lab, number) -> alsoWrong.on(lab, 0, number));
    }

    /** Functions of unlike numbers of letters, each pair of numbers both ways. */
    void unlikeLetters(ByTwo call) {
        for (int one = 0; one < 4; one++) {
            for (int other = 0; other < 4; other++) {
                int each = one;
                int with = other;
                if (one != other) {
                    refused(SOME, UNSUPPORTED, lab -> call.on(lab, each, with));
                    refused(FULL, UNSUPPORTED, lab -> call.on(lab, each, with));
                }
            }
        }
    }

    /** The function's own letters, from 0 on; the call is of functions that are a letter alone, the first or the last. */
    void byLetter(Object[] wantOfFirst, Object[] wantOfLast, ByTwo call) {
        says("- `letter`: the letter, from 0");
        for (int each = 1; each <= 4; each++) {
            int letters = each;
            due(tables(letters, FIRST_LETTER[letters]), wantOfFirst[letters - 1], lab -> call.on(lab, 0, 0));
            due(tables(letters, LAST_LETTER[letters]), wantOfLast[letters - 1], lab -> call.on(lab, 0, letters - 1));
            refused(tables(letters, LAST_LETTER[letters]), ARGUMENT,
                    lab -> call.on(lab, 0, -1), lab -> call.on(lab, 0, letters));
        }

        says("Throws `IllegalArgumentException` if the function has no such letter");
        for (int each = 1; each <= 4; each++) {
            int letters = each;
            refusedNumbers(SOME, ARGUMENT, beyond(0, letters - 1), (lab, letter) -> call.on(lab, letters - 1, letter));
            refusedNumbers(FULL, ARGUMENT, beyond(0, letters - 1), (lab, letter) -> call.on(lab, letters - 1, letter));
        }
    }

    /** Inputs, or sets of letters, are 0 to all ones; for others the call of a function is refused. */
    void refusedInputs(ByTwo call) {
        for (int each = 1; each <= 4; each++) {
            int letters = each;
            int[] others = beyond(0, (1 << letters) - 1);
            refusedNumbers(SOME, ARGUMENT, others, (lab, input) -> call.on(lab, letters - 1, input));
            refusedNumbers(FULL, ARGUMENT, others, (lab, input) -> call.on(lab, letters - 1, input));
        }
    }

    /** Calls that add a function answer its number, and are refused as the 25th. */
    void adds(Deed made, Deed call) {
        says("Returns its number.");
        YesNoLab lab = new YesNoLab();
        made.on(lab);
        int before = lab.functions();
        due(made, before, call);
        due(made, before + 1, each -> {
            call.on(each);
            return each.functions();
        });
        due(upTo(made, MOST_FUNCTIONS - 1), MOST_FUNCTIONS - 1, call);

        says("Throws `IllegalStateException` if there are 24");
        due(upTo(made, MOST_FUNCTIONS - 2), MOST_FUNCTIONS - 2, call);
        due(upTo(made, MOST_FUNCTIONS - 1), MOST_FUNCTIONS, each -> {
            call.on(each);
            return each.functions();
        });
        refused(upTo(made, MOST_FUNCTIONS), STATE, call);
    }
}
