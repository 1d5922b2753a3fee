import java.lang.reflect.Field;
import java.lang.reflect.Method;
import java.lang.reflect.Modifier;
import java.nio.file.Files;
import java.nio.file.Path;
import java.util.ArrayList;
import java.util.HashSet;
import java.util.List;
import java.util.Set;
import java.util.regex.Matcher;
import java.util.regex.Pattern;

/** The file of the class against what LANGUAGE.md rules out, as far as text and reflection tell. */
public final class LanguageTest {
    private static final Path CLASS = Path.of("src/main/java/YesNoLab.java");
    private static final Path DOCUMENT = Path.of("../shared/DOC.md");
    private static final int MOST_LINES = 60;
    private static final int MOST_PARAMETERS = 7;
    private static final int MOST_FIELDS = 20;
    private static final int MOST_CLASSES = 12;
    /** Words that no line of the class may hold, comments aside. */
    private static final String[] RULED_OUT = {
        "->", "::", "finally", "synchronized", "assert ", "catch", "try {", "instanceof", "Float", "Double.", "System.",
        "record ", "static {", "protected", "@", "hashCode", "toString", "Exact", "Random", "Thread", "volatile", "native"};

    private final Check check = new Check();

    public static void main(String[] args) throws Exception {
        LanguageTest test = new LanguageTest();
        String text = withoutComments(Files.readString(CLASS));
        test.words(text);
        test.made(text);
        test.methodLengths(text);
        test.face(Files.readString(CLASS), Files.readString(DOCUMENT));
        test.members();
        test.check.end();
    }

    private static String withoutComments(String text) {
        return text.replaceAll("(?s)/\\*.*?\\*/", "").replaceAll("//[^\n]*", "").replaceAll("\"[^\"\n]*\"", "\"\"");
    }

    private void words(String text) {
        for (String word : RULED_OUT) {
            check.due("rule out " + word, -1, () -> text.indexOf(word));
        }
        Matcher imports = Pattern.compile("import ([^;]*);").matcher(text);
        while (imports.find()) {
            String imported = imports.group(1);
            check.due("import", "java.util.NoSuchElementException", () -> imported);
        }
        check.due("signs beyond 127", true, () -> text.chars().allMatch(sign -> sign < 128));
    }

    /** Rows are made with the object, so that no call fills the room of a run. */
    private void made(String text) {
        for (String line : text.split("\n")) {
            if (line.contains("new ")) {
                check.due("made by: " + line.trim(), true, () -> line.contains("throw new ") || line.contains("private final "));
            }
        }
    }

    private void methodLengths(String text) {
        int begin = -1;
        String[] lines = text.split("\n");
        for (int index = 0; index < lines.length; index++) {
            if (lines[index].matches(" {4,8}[a-z].*\\(.*\\).*\\{")) {
                begin = index;
            }
            if (lines[index].matches(" {4,8}\\}") && begin >= 0) {
                int length = index - begin + 1;
                String first = lines[begin].trim();
                check.due("length of " + first, true, () -> length <= MOST_LINES);
                begin = -1;
            }
        }
    }

    /** Each line of the document's face stands in the class to the letter. */
    private void face(String text, String document) {
        int begin = document.indexOf("```java");
        String face = document.substring(begin, document.indexOf("```", begin + 3));
        int found = 0;
        for (String line : face.split("\n")) {
            if (line.startsWith("    public ")) {
                String head = line.substring(0, line.length() - 1) + " {";
                check.due("face: " + head, true, () -> text.contains(head));
                found++;
            }
        }
        int methods = found;
        check.due("lines of the face", 56, () -> methods);
        check.due("public members", (long) methods, () -> Pattern.compile("(?m)^ +public ").matcher(text).results().count());
    }

    private void members() {
        Set<String> names = new HashSet<>();
        for (Method method : YesNoLab.class.getMethods()) {
            if (method.getDeclaringClass() == YesNoLab.class) {
                names.add(method.getName());
            }
        }
        List<Class<?>> classes = new ArrayList<>(List.of(YesNoLab.class.getDeclaredClasses()));
        check.due("classes", true, () -> classes.size() < MOST_CLASSES);
        for (Class<?> inside : classes) {
            int how = inside.getModifiers();
            check.due("inside " + inside, true, () -> Modifier.isStatic(how) && !Modifier.isPublic(how));
        }
        classes.add(YesNoLab.class);
        for (Class<?> each : classes) {
            fields(each);
            for (Method method : each.getDeclaredMethods()) {
                boolean isOfFace = Modifier.isPublic(method.getModifiers());
                check.due("parameters of " + method, true, () -> method.getParameterCount() <= MOST_PARAMETERS);
                check.due("name of " + method, true, () -> isOfFace || !names.contains(method.getName()));
                check.due("hidden " + method, true,
                        () -> isOfFace || each != YesNoLab.class || Modifier.isPrivate(method.getModifiers()));
            }
        }
    }

    private void fields(Class<?> each) {
        int kept = 0;
        for (Field field : each.getDeclaredFields()) {
            int how = field.getModifiers();
            check.due("static and final " + field, true, () -> !Modifier.isStatic(how) || Modifier.isFinal(how));
            check.due("hidden " + field, true, () -> each != YesNoLab.class || Modifier.isPrivate(how));
            kept += Modifier.isStatic(how) ? 0 : 1;
        }
        int fields = kept;
        check.due("fields of " + each, true, () -> fields <= MOST_FIELDS);
    }
}
