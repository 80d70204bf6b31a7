import java.io.IOException;
import java.lang.reflect.Constructor;
import java.lang.reflect.Field;
import java.lang.reflect.Method;
import java.lang.reflect.Modifier;
import java.nio.charset.StandardCharsets;
import java.nio.file.Files;
import java.nio.file.Path;
import java.util.ArrayList;
import java.util.List;
import java.util.Set;
import java.util.TreeSet;
import java.util.regex.Matcher;
import java.util.regex.Pattern;

/** What can be held against LANGUAGE.md by looking at the class and its text; run from the project's folder. */
public final class LanguageTests {
    private static final String[] FACE = {
        "int feed(int,int,int,int,int)", "int end(int)", "int ring()", "int rule()", "int house(int,int)", "int direction(int,int)",
        "int rateOf(int)", "int worn(int)", "int hour()", "int rate(int,int)", "boolean swap(int,int)", "boolean stop()", "int undo()",
        "int run(int,int)", "int faces(int,int)", "int sees(int,int)", "int day(int)", "int plan(int,boolean,int)",
        "int errand(int,int,int,int)", "int stay(int)", "int swings(int)", "int trade(int)", "int spare(int,int,int)",
        "int apart(int,int,int,int,int)", "int diary(int,int,int,boolean)", "int turned(int)", "int look(int,int)", "int seed(int)",
        "int days(int,int,int,int)", "int count(int)", "int image(int)", "int back(int)"};

    public static void main(String[] args) throws IOException {
        face();
        nested();
        text();
        Checks.finish();
    }

    private static void face() {
        Set<String> shown = new TreeSet<>();
        Set<String> names = new TreeSet<>();
        for (Method m : TurnRing.class.getDeclaredMethods()) {
            if (Modifier.isPrivate(m.getModifiers())) continue;
            StringBuilder b = new StringBuilder(m.getReturnType().getName() + " " + m.getName() + "(");
            for (int i = 0; i < m.getParameterCount(); i++) b.append(i > 0 ? "," : "").append(m.getParameterTypes()[i].getName());
            shown.add(b.append(')').toString());
            names.add(m.getName());
            Checks.due("public: " + m.getName(), Modifier.isPublic(m.getModifiers()) && !Modifier.isStatic(m.getModifiers()), true);
        }
        Checks.due("the face: " + shown, shown.equals(new TreeSet<>(List.of(FACE))), true);
        for (Class<?> c : classes()) {
            for (Method m : c.getDeclaredMethods()) {
                if (c != TurnRing.class || Modifier.isPrivate(m.getModifiers())) {
                    Checks.due("no other method bears the name " + m.getName(), names.contains(m.getName()), false);
                }
            }
        }
        int open = 0;
        for (Field f : TurnRing.class.getDeclaredFields()) if (!Modifier.isPrivate(f.getModifiers())) open++;
        Checks.due("one constant", open, 1);
        Checks.due("NONE", TurnRing.NONE, -1);
        Constructor<?>[] made = TurnRing.class.getDeclaredConstructors();
        Checks.due("one constructor", made.length == 1 && Modifier.isPublic(made[0].getModifiers()) && made[0].getParameterCount() == 0, true);
        Checks.due("public and final", TurnRing.class.getModifiers(), Modifier.PUBLIC | Modifier.FINAL);
    }

    private static List<Class<?>> classes() {
        List<Class<?>> all = new ArrayList<>(List.of(TurnRing.class.getDeclaredClasses()));
        all.add(TurnRing.class);
        return all;
    }

    private static void nested() {
        Checks.due("at most twelve classes", classes().size() <= 12, true);
        for (Class<?> c : classes()) {
            if (c != TurnRing.class) Checks.due("static: " + c.getName(), Modifier.isStatic(c.getModifiers()), true);
            int fields = 0;
            for (Field f : c.getDeclaredFields()) {
                if (!Modifier.isStatic(f.getModifiers())) {
                    fields++;
                } else {
                    boolean constant = f.getType().isPrimitive() || f.getType() == String.class;
                    Checks.due("a constant: " + f, Modifier.isFinal(f.getModifiers()) && constant, true);
                }
            }
            Checks.due("some twenty fields at most: " + c.getName() + " " + fields, fields <= 20, true);
            for (Method m : c.getDeclaredMethods()) Checks.due("seven parameters at most: " + m, m.getParameterCount() <= 7, true);
        }
    }

    private static void text() throws IOException {
        String text = Files.readString(Path.of("src/main/java/TurnRing.java"), StandardCharsets.ISO_8859_1);
        for (int i = 0; i < text.length(); i++) if (text.charAt(i) > 126) Checks.due("a sign above 126 at " + i, 1, 0);
        String code = text.replaceAll("(?s)/\\*.*?\\*/", "").replaceAll("//[^\n]*", "");
        String[] never = {"throw", "try", "catch", "synchronized", "assert", "package", "new\\s+\\w+\\[[^\\]]*\\]\\[", "->", "::", "Exact\\(",
            "hashCode", "System\\.(?!arraycopy)", "random", "Object", "static\\s*\\{", "for\\s*\\(;;", "while\\s*\\(true", "\\bvar\\b", "float", "double"};
        for (String n : never) {
            String pattern = Character.isLetter(n.charAt(0)) ? "\\b" + n : n;
            Checks.due("the text has " + n, Pattern.compile(pattern).matcher(code).find(), false);
        }
        Matcher imports = Pattern.compile("import ([^;]*);").matcher(code);
        while (imports.find()) Checks.due("import " + imports.group(1), imports.group(1).equals("java.util.Arrays"), true);
        methodLengths(text);
    }

    private static void methodLengths(String text) {
        String[] lines = text.split("\n");
        for (int i = 0; i < lines.length; i++) {
            Matcher head = Pattern.compile("^( {4}| {8})\\w[^=;]*\\(.*\\{$").matcher(lines[i]);
            if (!head.find() || lines[i].contains("class ")) continue;
            int end = i;
            while (end < lines.length && !lines[end].equals(head.group(1) + "}")) end++;
            Checks.due("some sixty lines at most: " + lines[i].trim(), end - i <= 60, true);
        }
    }
}
