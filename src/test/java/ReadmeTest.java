import java.io.IOException;
import java.lang.reflect.InvocationTargetException;
import java.lang.reflect.Method;
import java.nio.file.Files;
import java.nio.file.Path;
import java.util.ArrayList;
import java.util.Arrays;
import java.util.HashMap;
import java.util.List;
import java.util.Map;
import java.util.Set;
import java.util.TreeMap;
import java.util.TreeSet;
import java.util.regex.Matcher;
import java.util.regex.Pattern;
import java.util.stream.Collectors;
import java.util.stream.Stream;

/** What README.md says of the class and of the tests, so that it stays true. */
public final class ReadmeTest {
    private static final Path TESTS = Path.of("src/test/java");
    private static final Pattern NAME = Pattern.compile("`(\\w+)`");
    private static final Pattern EXAMPLE = Pattern.compile("(?:int (\\w+) = )?lab\\.(\\w+)\\((.*)\\); +// (.+)");
    private static final int[] NUMBERS = {0, 1, 2, 3};
    private static final String SIGNS = "aoxndislbcmj";

    private final Check check = new Check();
    private final String page = Files.readString(Path.of("README.md"));
    private final String document = Files.readString(Path.of("../shared/DOC.md"));
    private final Map<String, Method> face = new TreeMap<>();

    private ReadmeTest() throws IOException {
        for (Method method : YesNoLab.class.getDeclaredMethods()) {
            if (java.lang.reflect.Modifier.isPublic(method.getModifiers())) {
                face.put(method.getName(), method);
            }
        }
    }

    public static void main(String[] args) throws IOException {
        ReadmeTest test = new ReadmeTest();
        test.example();
        test.changesAndAnswers();
        test.refusals();
        test.orderOfRefusals();
        test.filesOfTests();
        test.check.end();
    }

    private String section(String heading) {
        for (String part : page.split("(?m)^## ")) {
            if (part.startsWith(heading + "\n")) {
                return part;
            }
        }
        return "";
    }

    private static Set<String> names(String text) {
        return NAME.matcher(text).results().map(each -> each.group(1)).collect(Collectors.toCollection(TreeSet::new));
    }

    // ---- the example

    private void example() {
        String block = page.split("```")[1];
        YesNoLab lab = new YesNoLab();
        Map<String, Object> variables = new HashMap<>();
        String[] lines = block.split("\n");
        check.due("the example's first line", "YesNoLab lab = new YesNoLab();", () -> lines[1]);
        for (String line : Arrays.copyOfRange(lines, 2, lines.length)) {
            Matcher parts = EXAMPLE.matcher(line);
            check.due("a call and its answer: " + line, true, () -> parts.matches());
            Object got = called(lab, face.get(parts.group(2)), arguments(parts.group(3), variables));
            check.due(line, parts.group(4), () -> got.toString().replace("throws.", "throws "));
            if (parts.group(1) != null) {
                variables.put(parts.group(1), got);
            }
        }
    }

    private static Object[] arguments(String text, Map<String, Object> variables) {
        List<Object> all = new ArrayList<>();
        for (String each : text.isEmpty() ? new String[0] : text.split(", ")) {
            if (variables.containsKey(each)) {
                all.add(variables.get(each));
            } else if (each.startsWith("'")) {
                all.add(each.charAt(1));
            } else if (each.equals("true") || each.equals("false")) {
                all.add(each.equals("true"));
            } else {
                all.add(Integer.parseInt(each));
            }
        }
        return all.toArray();
    }

    private static Object called(YesNoLab lab, Method method, Object... arguments) {
        try {
            return method.invoke(lab, arguments);
        } catch (InvocationTargetException e) {
            return Check.refusal(e.getCause().getClass().getSimpleName());
        } catch (IllegalAccessException e) {
            throw new IllegalStateException(e);
        }
    }

    // ---- what changes an object

    private void changesAndAnswers() {
        Set<String> changing = new TreeSet<>();
        for (String row : section("Calls that change an object").split("\n")) {
            changing.addAll(row.startsWith("| `") ? names(row.split("\\|")[1]) : Set.of());
        }
        Set<String> answering = names(section("Calls that only answer"));
        Set<String> both = new TreeSet<>(changing);
        both.addAll(answering);
        check.due("calls that change, and that only answer", face.keySet(), () -> both);
        check.due("no call is of both", face.size(), () -> changing.size() + answering.size());
        for (String name : face.keySet()) {
            check.due(name + " only answers", answering.contains(name), () -> onlyAnswers(face.get(name)));
        }
    }

    /** Whether no call of it, answered or refused, is seen in any later answer. */
    private boolean onlyAnswers(Method method) {
        boolean isSame = true;
        for (Boundaries.Deed made : List.of(Boundaries.NEW, Boundaries.SOME, Boundaries.FULL)) {
            for (int bound : Boundaries.BOUNDS) {
                YesNoLab lab = new YesNoLab();
                YesNoLab twin = new YesNoLab();
                made.on(lab);
                made.on(twin);
                for (Object[] arguments : allArguments(method.getParameterTypes())) {
                    called(lab, method, arguments);
                }
                isSame = isSame && Boundaries.later(lab, bound).equals(Boundaries.later(twin, bound));
            }
        }
        return isSame;
    }

    private static List<Object[]> allArguments(Class<?>[] types) {
        List<Object[]> all = new ArrayList<>();
        all.add(new Object[0]);
        for (Class<?> type : types) {
            List<Object[]> longer = new ArrayList<>();
            for (Object[] begun : all) {
                for (Object value : values(type)) {
                    Object[] more = Arrays.copyOf(begun, begun.length + 1);
                    more[begun.length] = value;
                    longer.add(more);
                }
            }
            all = longer;
        }
        return all;
    }

    private static List<Object> values(Class<?> type) {
        List<Object> all = new ArrayList<>();
        if (type == char.class) {
            SIGNS.chars().forEach(sign -> all.add((char) sign));
        } else if (type == boolean.class) {
            all.addAll(List.of(true, false));
        } else {
            Arrays.stream(NUMBERS).forEach(all::add);
        }
        return all;
    }

    // ---- what is refused

    private void refusals() {
        Map<String, Set<String>> told = new TreeMap<>();
        for (String name : face.keySet()) {
            told.put(name, new TreeSet<>());
        }
        for (String row : section("Refused calls").split("\n")) {
            if (row.startsWith("| `")) {
                String[] cells = row.split("\\|");
                Set<String> calls = names(cells[3]);
                boolean isAllBut = cells[3].startsWith(" all but ");
                check.due("names of calls: " + row, true, () -> face.keySet().containsAll(calls));
                for (String name : face.keySet()) {
                    if (calls.contains(name) != isAllBut) {
                        told.get(name).addAll(names(cells[1]));
                    }
                }
            }
        }
        for (String name : face.keySet()) {
            check.due("refusals of " + name, new TreeSet<>(exceptions(face.get(name))), () -> told.get(name));
        }
        Matcher never = Pattern.compile("(?m)^(.*) are never refused\\.$").matcher(page);
        check.due("a line of calls that are never refused", true, never::find);
        Set<String> calm = face.keySet().stream().filter(name -> told.get(name).isEmpty()).collect(Collectors.toSet());
        check.due("never refused", calm, () -> names(never.group(1)));
    }

    private static List<String> exceptions(Method method) {
        return Stream.of(method.getExceptionTypes()).map(Class::getSimpleName).collect(Collectors.toList());
    }

    /** The head of each method names its exceptions as its promise does, so that the page may point there. */
    private void orderOfRefusals() {
        int found = 0;
        for (String part : document.split("(?m)^## Promise \\d+: ")) {
            String name = part.split("\n")[0];
            if (face.containsKey(name)) {
                List<String> thrown = Pattern.compile("(?m)^Throws `(\\w+)`").matcher(part).results()
                        .map(each -> each.group(1)).collect(Collectors.toList());
                check.due("order of refusals of " + name, thrown, () -> exceptions(face.get(name)));
                found++;
            }
        }
        int promised = found;
        check.due("promised methods", face.size(), () -> promised);
    }

    // ---- the tests

    private void filesOfTests() throws IOException {
        try (Stream<Path> files = Files.list(TESTS)) {
            for (Path file : files.sorted().toList()) {
                String name = file.getFileName().toString();
                boolean isHelper = name.equals("Check.java");
                check.due("README names " + name, true, () -> isHelper || page.contains(name));
            }
        }
    }
}
