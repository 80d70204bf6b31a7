import java.io.IOException;
import java.lang.reflect.Constructor;
import java.lang.reflect.Executable;
import java.lang.reflect.Field;
import java.lang.reflect.Method;
import java.nio.charset.StandardCharsets;
import java.nio.file.Files;
import java.nio.file.Path;
import java.util.ArrayList;
import java.util.List;
import java.util.Set;
import java.util.TreeSet;
import java.util.regex.Matcher;
import java.util.regex.Pattern;

/**
 * No sentence of the document is left without a test: all its words, from 'Terms' to the last
 * promise, are quoted by the Bounds tests, and what these quote stands there; and its face is the
 * class's. Run from the project's folder.
 */
public final class DocTests {
    private static final String DOC = "../shared/DOC.md";
    private static final String[] TESTS = {"RingBounds", "RuleBounds", "ActBounds", "AskBounds"};

    public static void main(String[] args) throws IOException {
        if (!Files.exists(Path.of(DOC))) {
            System.out.println(DOC + " is not here: its sentences are not held against the tests");
            return;
        }
        String doc = read(DOC).replaceAll("\\s+", " ");
        boolean[] quoted = new boolean[doc.length()];
        for (String sentence : sentences()) {
            Checks.due("the document says \"" + sentence + "\"", doc.contains(sentence), true);
            for (int at = doc.indexOf(sentence); at >= 0; at = doc.indexOf(sentence, at + 1)) {
                for (int i = at; i < at + sentence.length(); i++) quoted[i] = true;
            }
        }
        int promises = 0;
        for (String part : parts(doc, quoted)) {
            String title = part.split("\\|", 2)[0].trim();
            String left = unquoted(part);
            Checks.due("quoted by no test, of '" + title + "': " + left, left.isEmpty(), true);
            if (title.startsWith("Promise")) promises++;
        }
        Checks.due("promises", promises, 33);
        face(read(DOC));
        Checks.finish();
    }

    /** 'The public face', line by line, and what is public in the class: the same. */
    private static void face(String doc) {
        Matcher block = Pattern.compile("(?s)## The public face\\s+```java\n(.*?)```").matcher(doc);
        Checks.due("the document shows the face", block.find(), true);
        Set<String> told = new TreeSet<>();
        for (String line : block.group(1).split("\n")) {
            // parameters by their types alone, a constant with its value
            String words = line.trim().replaceAll("\\b(int|boolean) \\w+(?=[,)])", "$1");
            if (words.startsWith("public") && words.endsWith(";")) told.add(words);
        }
        Set<String> shown = new TreeSet<>();
        for (Field f : TurnRing.class.getFields()) shown.add("public static final int " + f.getName() + " = " + TurnRing.NONE + ";");
        for (Constructor<?> c : TurnRing.class.getConstructors()) shown.add("public TurnRing(" + types(c) + ");");
        for (Method m : TurnRing.class.getMethods()) {
            if (m.getDeclaringClass() == TurnRing.class) shown.add("public " + m.getReturnType() + " " + m.getName() + "(" + types(m) + ");");
        }
        for (String member : told) Checks.due("the class has " + member, shown.contains(member), true);
        for (String member : shown) Checks.due("the document has " + member, told.contains(member), true);
    }

    private static String types(Executable member) {
        List<String> names = new ArrayList<>();
        for (Class<?> type : member.getParameterTypes()) names.add(type.getName());
        return String.join(", ", names);
    }

    private static String read(String path) throws IOException {
        return Files.readString(Path.of(path), StandardCharsets.UTF_8);
    }

    private static List<String> sentences() throws IOException {
        List<String> all = new ArrayList<>();
        for (String test : TESTS) {
            Matcher m = Pattern.compile("Checks\\.sentence\\(\"([^\"]*)\"\\)").matcher(read("src/test/java/" + test + ".java"));
            while (m.find()) all.add(m.group(1));
        }
        return all;
    }

    /** 'Terms' and each promise: its title, |, and its words, with a blank for each sign that is quoted. */
    private static List<String> parts(String doc, boolean[] quoted) {
        List<String> all = new ArrayList<>();
        Matcher m = Pattern.compile("## (Terms|Promise \\d+: (?:A new object|\\w+)) (.*?)(?=## )").matcher(doc);
        while (m.find()) {
            StringBuilder b = new StringBuilder(m.group(1) + "|");
            for (int i = m.start(2); i < m.end(2); i++) b.append(quoted[i] ? ' ' : doc.charAt(i));
            all.add(b.toString());
        }
        return all;
    }

    /** The words left over, but for the face of a promise and the numbers and marks of parts. */
    private static String unquoted(String part) {
        String words = part.substring(part.indexOf('|') + 1);
        String left = words.replaceAll("`[^`]*\\([^`]*\\)`", " ").replaceAll("```(text)?", " ").replaceAll("==== I+\\.", " ");
        return left.replaceAll("[^A-Za-z0-9]+", " ").trim();
    }
}
