import java.io.IOException;
import java.lang.reflect.Constructor;
import java.lang.reflect.Field;
import java.lang.reflect.Method;
import java.lang.reflect.Modifier;
import java.nio.file.Files;
import java.nio.file.Path;
import java.util.Arrays;
import java.util.Set;
import java.util.TreeSet;
import java.util.regex.Matcher;
import java.util.regex.Pattern;
import java.util.stream.Collectors;

/** The face of the document, and those rules of LANGUAGE.md that can be seen in the classes and in the text. */
public final class LanguageTest {
    private static final String[] FACE = {
        "int mark(int, int, boolean)", "int tape(int, int, int)", "int tapes(int, int, int)", "int bar(int)",
        "long fit(int, int)", "long tapeTold(int, int)", "long sum()", "int find(int, int, int, int)",
        "int hole(int, int)", "int findTold(int, int)", "int tank(int, int)", "int tankTold(int, int)",
        "int lift(int, int, int)", "int why(int, int, int)", "int take(int, int)", "int diver()",
        "int row(int, int, int)", "int dive(int, int, int, int, int)", "int cancel()", "int under(int, int)",
        "int soonest(int, int, int, int, int)", "int feed(int, long)", "int rule()", "long worth(int, int, int)",
        "int bond(int, int, int)", "int best(int)", "int joined(int)", "int task(int, int)", "int gang(int)",
        "int plan()", "int planned(int)", "int hatches(int)", "int roll(int)", "int stood(int)",
        "int stoodAt(int, int)", "int count(int)", "int sheet(int, int, int)", "int cell(int, int, int)",
        "int none(int, int)", "int taken(int, int)"};
    private static final Set<String> CONSTANTS = Set.of("NONE", "BAD", "STATE", "FULL", "NO");
    private static final String[] FORBIDDEN = {"throw", "throws", "try", "catch", "synchronized", "assert", "import",
        "package", "->", "::", "Exact", "Object", "Math\\.sqrt", "System\\.out", "@", "\\bequals\\b", "hashCode",
        "toString", "protected", "double", "float", "volatile", "native", "\\bvar\\b", "Integer\\.[A-Z]", "Long\\.[A-Z]"};

    private static int wrong = 0;

    private static void want(boolean holds, String what) {
        if (!holds) {
            wrong++;
            System.out.println("not so: " + what);
        }
    }

    private static String told(Method method) {
        String parameters = Arrays.stream(method.getParameterTypes()).map(Class::getSimpleName).collect(Collectors.joining(", "));
        return method.getReturnType().getSimpleName() + " " + method.getName() + "(" + parameters + ")";
    }

    private static void checkFace() {
        Class<?> face = WreckField.class;
        want(face.getModifiers() == (Modifier.PUBLIC | Modifier.FINAL), "the class is public and final");
        Set<String> open = new TreeSet<>(), openNames = new TreeSet<>(), hiddenNames = new TreeSet<>();
        for (Method method : face.getDeclaredMethods()) {
            if (Modifier.isPrivate(method.getModifiers())) {
                hiddenNames.add(method.getName());
            } else {
                want(method.getModifiers() == Modifier.PUBLIC, method + " is public and no more");
                open.add(told(method));
                openNames.add(method.getName());
            }
        }
        want(open.equals(new TreeSet<>(Arrays.asList(FACE))), "the methods of the document and no other: " + open);
        hiddenNames.retainAll(openNames);
        want(hiddenNames.isEmpty(), "no private method with a public one's name: " + hiddenNames);
        Constructor<?>[] made = face.getDeclaredConstructors();
        want(made.length == 1 && made[0].getParameterCount() == 0 && Modifier.isPublic(made[0].getModifiers()), "one constructor");
        for (Field field : face.getDeclaredFields()) {
            boolean isConstant = CONSTANTS.contains(field.getName());
            int open3 = Modifier.PUBLIC | Modifier.STATIC | Modifier.FINAL;
            want(isConstant ? field.getModifiers() == open3 : Modifier.isPrivate(field.getModifiers()), "open is no field but the constants: " + field);
        }
        for (Class<?> inner : face.getDeclaredClasses()) {
            for (Method method : inner.getDeclaredMethods()) {
                want(!openNames.contains(method.getName()), "no inner method with a public one's name: " + method);
            }
        }
    }

    private static void checkClass(Class<?> kind) {
        int modifiers = kind.getModifiers();
        if (kind != WreckField.class) {
            want(Modifier.isStatic(modifiers) && !Modifier.isPublic(modifiers) && !Modifier.isProtected(modifiers), kind + " is static and hidden");
        }
        int fields = 0;
        for (Field field : kind.getDeclaredFields()) {
            int is = field.getModifiers();
            want(!Modifier.isStatic(is) || Modifier.isFinal(is), "static and not final: " + field);
            fields += Modifier.isStatic(is) ? 0 : 1;
        }
        want(fields <= 20, kind + " has " + fields + " fields");
        for (Method method : kind.getDeclaredMethods()) {
            want(method.getParameterCount() <= 7, method + " has more than seven parameters");
            want(!method.isSynthetic(), method + " is made by the compiler");
        }
    }

    private static void checkText(String text) {
        String code = text.replaceAll("(?s)/\\*.*?\\*/", "").replaceAll("//[^\n]*", "").replaceAll("\"[^\"\n]*\"", "\"\"");
        for (String word : FORBIDDEN) {
            String pattern = word.matches("[a-z]+") ? "\\b" + word + "\\b" : word;
            Matcher matcher = Pattern.compile(pattern).matcher(code);
            want(!matcher.find(), "the text is without " + word);
        }
        want(text.chars().allMatch(c -> c == '\n' || c >= 32 && c < 127), "the text has plain signs alone");
        int begin = 0;
        String[] lines = text.split("\n");
        for (int i = 0; i < lines.length; i++) {
            want(lines[i].length() <= 125, "line " + (i + 1) + " is too long");
            if (lines[i].matches(" {4,8}[a-z].*\\) \\{")) begin = i;
            if (lines[i].matches(" {4,8}\\}")) want(i - begin <= 60, "the method at line " + (begin + 1) + " is too long");
        }
    }

    /** Rule 9: the counter, its bound and its step stand in the loop's own lines. */
    private static void checkLoops(String text) {
        String up = "<=? [^;]+; \\1\\+\\+", down = ">=? [^;]+; \\1(--| /= 2| = \\(\\1 - 1\\) & \\w+)";
        String counted = "for \\(int (\\w+) = [^;]+; \\1 (" + up + "|" + down + ")\\) \\{";
        String awaited = "(?s)while \\((\\w+) < [^\n]*\\) \\{[^}]*?\\b\\1\\+\\+;.*";
        Matcher loop = Pattern.compile("(?m)^ *(for|while|do)\\b.*$").matcher(text);
        while (loop.find()) {
            String head = loop.group().trim();
            boolean isBound = loop.group(1).equals("for") ? head.matches(counted)
                : text.substring(loop.start()).trim().matches(awaited);
            want(isBound, "the end of a loop can be seen: " + head);
        }
    }

    public static void main(String[] args) throws IOException {
        checkFace();
        checkClass(WreckField.class);
        Class<?>[] inner = WreckField.class.getDeclaredClasses();
        want(inner.length <= 12, "at most twelve classes inside");
        for (Class<?> kind : inner) {
            checkClass(kind);
            want(kind.getDeclaredClasses().length == 0, kind + " has no class inside");
        }
        String text = Files.readString(Path.of("src/main/java/WreckField.java"));
        checkText(text);
        checkLoops(text);
        System.out.println(wrong == 0 ? "the face and the language are as told" : wrong + " things are not as told");
        if (wrong != 0) System.exit(1);
    }
}
