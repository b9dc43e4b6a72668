import java.io.IOException;
import java.lang.reflect.Constructor;
import java.lang.reflect.Field;
import java.lang.reflect.Method;
import java.lang.reflect.Modifier;
import java.nio.file.Files;
import java.nio.file.Path;
import java.util.TreeSet;
import java.util.regex.Matcher;
import java.util.regex.Pattern;

/** Those rules of LANGUAGE.md that can be seen in the class's text or face. Run it from the project's folder. */
public final class LanguageTest {
    private static final Path SOURCE = Path.of("src/main/java/FitBench.java");
    private static final Path DOCUMENT = Path.of("../shared/DOC.md");
    private static final int MOST_LINES = 60;
    private static int wrong = 0;

    public static void main(String[] args) throws IOException {
        String text = Files.readString(SOURCE);
        String code = bare(text);
        words(code);
        methodLengths(code);
        face();
        members();
        System.out.println(wrong == 0 ? "the rules are kept" : wrong + " rules are not kept");
        if (wrong != 0) {
            System.exit(1);
        }
    }

    private static void rule(int number, boolean kept, String what) {
        if (!kept) {
            wrong++;
            System.out.println("rule " + number + ": " + what);
        }
    }

    private static String bare(String text) {
        for (char sign : text.toCharArray()) {
            if (sign > 127) {
                rule(4, false, "sign " + (int) sign);
                break;
            }
        }
        return text.replaceAll("(?s)/\\*.*?\\*/", "").replaceAll("//[^\n]*", "").replaceAll("\"[^\"\n]*\"", "\"\"");
    }

    private static void words(String code) {
        String[] banned = {"throw", "throws", "try", "catch", "synchronized", "assert", "package", "volatile",
            "Thread", "Random", "Object", "hashCode", "toString", "instanceof Object", "double", "float", "native"};
        for (String word : banned) {
            rule(6, !Pattern.compile("\\b" + word + "\\b").matcher(code).find(), "the word " + word);
        }
        for (String sign : new String[] {"->", "::", "Exact", "@", "[][]["}) {
            rule(2, !code.contains(sign), "the sign " + sign);
        }
        Matcher imports = Pattern.compile("import ([^;]*);").matcher(code);
        while (imports.find()) {
            rule(4, imports.group(1).equals("java.util.Arrays"), "import of " + imports.group(1));
        }
        Matcher calls = Pattern.compile("\\b(Math|Arrays|System|Integer|Long)\\.(\\w+)").matcher(code);
        TreeSet<String> known = new TreeSet<>(java.util.List.of("Math.abs", "Math.min", "Math.max", "Math.floorDiv",
                "Arrays.fill", "System.arraycopy"));
        while (calls.find()) {
            rule(4, known.contains(calls.group()), "call of " + calls.group());
        }
    }

    private static void methodLengths(String code) {
        String[] lines = code.split("\n");
        Pattern head = Pattern.compile("^( +)[\\w\\[\\]<> ]+\\(.*[{,]$");
        for (int i = 0; i < lines.length; i++) {
            Matcher match = head.matcher(lines[i]);
            if (match.find() && match.group(1).length() % 4 == 0 && match.group(1).length() <= 8) {
                int end = i;
                while (end < lines.length && !lines[end].equals(match.group(1) + "}")) {
                    end++;
                }
                rule(11, end - i < MOST_LINES, "length of " + lines[i].trim());
            }
        }
    }

    /** The class has the face of the document, and nothing else that can be seen. */
    private static void face() throws IOException {
        TreeSet<String> want = new TreeSet<>();
        Matcher face = Pattern.compile("    public (static final int \\w+|FitBench\\(\\)|[^;=]*\\))[^;]*;")
                .matcher(Files.readString(DOCUMENT));
        while (face.find()) {
            want.add(face.group(1).replaceAll("(\\w+) \\w+(?=[,)])", "$1").replace(" ", ""));
        }
        TreeSet<String> got = new TreeSet<>();
        for (Method method : FitBench.class.getDeclaredMethods()) {
            if (!Modifier.isPrivate(method.getModifiers())) {
                got.add(method.getReturnType() + method.getName() + types(method.getParameterTypes()));
            }
        }
        for (Constructor<?> made : FitBench.class.getDeclaredConstructors()) {
            got.add("FitBench" + types(made.getParameterTypes()));
        }
        for (Field field : FitBench.class.getDeclaredFields()) {
            if (!Modifier.isPrivate(field.getModifiers())) {
                got.add("staticfinal" + field.getType() + field.getName());
            }
        }
        rule(1, want.size() == 31 && got.equals(want), "the face is " + got + ", due is " + want);
        rule(1, Modifier.isFinal(FitBench.class.getModifiers()), "not final");
    }

    private static String types(Class<?>[] types) {
        StringBuilder text = new StringBuilder("(");
        for (Class<?> type : types) {
            text.append(text.length() > 1 ? "," : "").append(type);
        }
        return text.append(')').toString();
    }

    private static void members() {
        TreeSet<String> open = new TreeSet<>();
        for (Method method : FitBench.class.getDeclaredMethods()) {
            if (Modifier.isPublic(method.getModifiers())) {
                open.add(method.getName());
            }
        }
        Class<?>[] inside = FitBench.class.getDeclaredClasses();
        rule(11, inside.length + 1 <= 12, "classes");
        look(FitBench.class, open);
        for (Class<?> one : inside) {
            rule(2, Modifier.isStatic(one.getModifiers()) && !Modifier.isPublic(one.getModifiers())
                    && !Modifier.isProtected(one.getModifiers()), "class " + one);
            look(one, open);
        }
    }

    private static void look(Class<?> one, TreeSet<String> open) {
        int fields = 0;
        for (Field field : one.getDeclaredFields()) {
            boolean fixed = Modifier.isStatic(field.getModifiers());
            fields += fixed ? 0 : 1;
            rule(5, !fixed || Modifier.isFinal(field.getModifiers()), "static field " + field);
        }
        rule(11, fields <= 20, "fields of " + one);
        for (Method method : one.getDeclaredMethods()) {
            rule(11, method.getParameterCount() <= 7, "parameters of " + method);
            rule(1, Modifier.isPublic(method.getModifiers()) || !open.contains(method.getName()), "name of " + method);
        }
    }
}
