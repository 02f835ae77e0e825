import java.io.IOException;
import java.lang.reflect.Field;
import java.lang.reflect.Method;
import java.lang.reflect.Modifier;
import java.nio.file.Files;
import java.nio.file.Path;
import java.util.ArrayList;
import java.util.Arrays;
import java.util.HashSet;
import java.util.List;
import java.util.Set;
import java.util.TreeSet;
import java.util.regex.Matcher;
import java.util.regex.Pattern;

/** The public face is the document's; the source keeps to the rules of LANGUAGE.md that a test can see. */
public final class FaceTest {
    private static final Check check = new Check();

    public static void main(String[] args) throws IOException {
        face();
        members();
        source();
        check.end();
    }

    private static String documentFace() throws IOException {
        String doc = Files.readString(Path.of("../shared/DOC.md"));
        int from = doc.indexOf("```java");
        return doc.substring(from, doc.indexOf("```", from + 3));
    }

    private static void face() throws IOException {
        check.part("face");
        Set<String> due = new TreeSet<>();
        Matcher m = Pattern.compile("public (int|long) (\\w+)\\(([^)]*)\\);").matcher(documentFace());
        while (m.find()) {
            int parameters = m.group(3).isBlank() ? 0 : m.group(3).split(",").length;
            due.add(m.group(1) + " " + m.group(2) + " " + parameters);
        }
        Set<String> there = new TreeSet<>();
        for (Method method : TomorrowPage.class.getDeclaredMethods()) {
            if (Modifier.isPublic(method.getModifiers())) {
                there.add(method.getReturnType() + " " + method.getName() + " " + method.getParameterCount());
                check.due(method.getName() + " is static", Modifier.isStatic(method.getModifiers()) ? 1 : 0, 0);
            }
        }
        check.due("calls in the document", due.size(), 48);
        check.due("the calls " + there + " are those of the document " + due, there.equals(due) ? 1 : 0, 1);
        check.due("final", Modifier.isFinal(TomorrowPage.class.getModifiers()) ? 1 : 0, 1);
        check.due("constructors", TomorrowPage.class.getConstructors().length, 1);
        check.due("BAD", TomorrowPage.BAD, -1);
        check.due("FULL", TomorrowPage.FULL, -2);
        check.due("FINDING", TomorrowPage.FINDING, -3);
        check.due("STATE", TomorrowPage.STATE, -4);
        check.due("SPENT", TomorrowPage.SPENT, -6);
        check.due("NONE", TomorrowPage.NONE, -9);
    }

    private static void members() {
        check.part("members");
        Set<String> constants = new HashSet<>(Arrays.asList("BAD", "FULL", "FINDING", "STATE", "SPENT", "NONE"));
        Set<String> calls = new HashSet<>();
        for (Method method : TomorrowPage.class.getMethods()) {
            if (method.getDeclaringClass() == TomorrowPage.class) {
                calls.add(method.getName());
            }
        }
        for (Field field : TomorrowPage.class.getDeclaredFields()) {
            boolean own = Modifier.isPrivate(field.getModifiers());
            check.due("private or of the face: " + field.getName(), own != constants.contains(field.getName()) ? 1 : 0, 1);
        }
        for (Method method : TomorrowPage.class.getDeclaredMethods()) {
            int how = method.getModifiers();
            check.due("public or private: " + method.getName(), Modifier.isPublic(how) || Modifier.isPrivate(how) ? 1 : 0, 1);
        }
        List<Class<?>> classes = new ArrayList<>();
        classes.add(TomorrowPage.class);
        classes.addAll(Arrays.asList(TomorrowPage.class.getDeclaredClasses()));
        check.due("at most twelve classes, there are " + classes.size(), classes.size() <= 12 ? 1 : 0, 1);
        for (Class<?> one : classes) {
            membersOf(one, calls);
        }
    }

    private static void membersOf(Class<?> one, Set<String> calls) {
        if (one != TomorrowPage.class) {
            int how = one.getModifiers();
            check.due("static: " + one, Modifier.isStatic(how) ? 1 : 0, 1);
            check.due("not public: " + one, Modifier.isPublic(how) || Modifier.isProtected(how) ? 1 : 0, 0);
        }
        int fields = 0;
        for (Field field : one.getDeclaredFields()) {
            if (Modifier.isStatic(field.getModifiers())) {
                check.due("final: " + field, Modifier.isFinal(field.getModifiers()) ? 1 : 0, 1);
            } else {
                fields++;
            }
        }
        check.due("at most twenty fields in " + one, fields <= 20 ? 1 : 0, 1);
        for (Method method : one.getDeclaredMethods()) {
            check.due("at most seven parameters: " + method, method.getParameterCount() <= 7 ? 1 : 0, 1);
            if (!Modifier.isPublic(method.getModifiers())) {
                check.due("bears a name of the face: " + method, calls.contains(method.getName()) ? 1 : 0, 0);
            }
        }
    }

    private static void source() throws IOException {
        check.part("source");
        String source = Files.readString(Path.of("src/main/java/TomorrowPage.java"));
        for (int i = 0; i < source.length(); i++) {
            if (source.charAt(i) > 127) {
                check.due("a sign above 127 at " + i, source.charAt(i), 0);
            }
        }
        String code = source.replaceAll("(?s)/\\*.*?\\*/", " ").replaceAll("//[^\n]*", " ");
        String[] ruledOut = {"throw", "throws", "try", "catch", "finally", "synchronized", "assert", "import", "package",
            "protected", "var", "volatile", "transient", "native", "double", "float", "Object", "Exception",
            "Random", "Thread", "hashCode", "toString", "Exact"};
        for (String word : ruledOut) {
            check.due("has the word " + word, Pattern.compile("\\b" + word + "\\b").matcher(code).find() ? 1 : 0, 0);
        }
        check.due("has a lambda", code.contains("->") ? 1 : 0, 0);
        check.due("has a method reference", code.contains("::") ? 1 : 0, 0);
        check.due("has a text", code.contains("\"") ? 1 : 0, 0);
        Matcher library = Pattern.compile("\\b(System|Math|Integer|Long|Arrays|String)\\.(\\w+)").matcher(code);
        Set<String> allowed = new HashSet<>(Arrays.asList("System.arraycopy", "Math.max", "Math.min", "Integer.bitCount"));
        while (library.find()) {
            check.due("allowed: " + library.group(), allowed.contains(library.group()) ? 1 : 0, 1);
        }
        lengths(code.split("\n"));
        made(code);
    }

    /** All calls of a run live in one room: objects are made with the program's object, none by a call. */
    private static void made(String code) {
        int from = code.indexOf("public TomorrowPage() {");
        String calls = code.substring(0, from) + code.substring(code.indexOf("\n    }\n", from));
        for (String line : calls.split("\n")) {
            if (Pattern.compile("\\bnew\\b|\\bclone\\b").matcher(line).find()) {
                boolean field = line.matches("^ {4,8}(private )?final [\\w\\[\\]]+ \\w+ = new .*;$");
                check.due("made with the object: " + line.trim(), field ? 1 : 0, 1);
            }
        }
    }

    /** A method begins at a line that ends in "{" behind ")" and ends at "}" of the same indent. */
    private static void lengths(String[] lines) {
        Pattern begin = Pattern.compile("^( {4}| {8})(?! )[\\w<>\\[\\] ]+\\(.*\\) \\{$");
        for (int i = 0; i < lines.length; i++) {
            Matcher m = begin.matcher(lines[i]);
            if (!m.matches() || lines[i].matches("^ +(if|for|while|switch|return|else).*")) {
                continue;
            }
            int end = i;
            while (end < lines.length && !lines[end].equals(m.group(1) + "}")) {
                end++;
            }
            check.due("at most sixty lines: " + lines[i].trim(), end - i < 60 ? 1 : 0, 1);
        }
    }
}
