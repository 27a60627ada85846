import java.lang.reflect.Constructor;
import java.lang.reflect.Field;
import java.lang.reflect.Method;
import java.lang.reflect.Modifier;
import java.nio.file.Files;
import java.nio.file.Path;
import java.util.ArrayList;
import java.util.List;
import java.util.Set;
import java.util.TreeSet;
import java.util.regex.Matcher;
import java.util.regex.Pattern;

/** The face that the document tells, and those rules of LANGUAGE.md that a program can look at. */
public final class LanguageTest {
    private static final Due due = new Due();

    private static final String[] FACE = {
        "int table(int,int)", "int cell(int,int,int)", "int about(int,int,int)", "int sample(int,int)",
        "int pair(int,int)", "int clear(int)", "int tables()", "int labels(int)", "int signs(int)",
        "int rank(int,int)", "int caseAt(int,int,int)", "int weighs(int)", "int bits(int,int)",
        "int word(int,int,int)", "int figure(int,int)", "int against(int,int,int)", "int result(int)",
        "long ways(int)", "int note(int)", "int rejected(int,int)", "int isRejected(int,int,int)",
        "int claim(int)", "int check(int)", "int shift()", "int told(int)"};

    public static void main(String[] args) throws Exception {
        face();
        constants();
        classesInside();
        source(Files.readString(Path.of("src/main/java/ExactTests.java")));
        due.close();
    }

    private static String shown(Method m) {
        List<String> types = new ArrayList<>();
        for (Class<?> type : m.getParameterTypes()) {
            types.add(type.getName());
        }
        return m.getReturnType().getName() + " " + m.getName() + "(" + String.join(",", types) + ")";
    }

    private static void face() {
        due.isTrue("public and final", Modifier.isPublic(ExactTests.class.getModifiers())
            && Modifier.isFinal(ExactTests.class.getModifiers()));
        Set<String> seen = new TreeSet<>();
        for (Method m : ExactTests.class.getDeclaredMethods()) {
            if (Modifier.isPublic(m.getModifiers())) {
                seen.add(shown(m));
                due.isTrue(m + " is of the object", !Modifier.isStatic(m.getModifiers()));
            } else {
                due.isTrue(m + " is private", Modifier.isPrivate(m.getModifiers()) || m.isSynthetic());
            }
        }
        due.isTrue("the face is " + seen, seen.equals(new TreeSet<>(List.of(FACE))));
        Constructor<?>[] constructors = ExactTests.class.getDeclaredConstructors();
        due.is("constructors", constructors.length, 1);
        due.isTrue("a public constructor without arguments",
            Modifier.isPublic(constructors[0].getModifiers()) && constructors[0].getParameterCount() == 0);
    }

    private static void constants() throws Exception {
        String[] names = {"UNKNOWN", "OUTSIDE", "STATE", "FULL", "NO", "NONE", "SPENT", "LOST"};
        int[] values = {-1, -2, -3, -4, -5, -6, -7, -1000000001};
        int open = 0;
        for (Field f : ExactTests.class.getDeclaredFields()) {
            open += Modifier.isPrivate(f.getModifiers()) ? 0 : 1;
        }
        due.is("fields that are not private", open, names.length);
        for (int i = 0; i < names.length; i++) {
            Field f = ExactTests.class.getField(names[i]);
            int all = Modifier.PUBLIC | Modifier.STATIC | Modifier.FINAL;
            due.is(names[i] + " is public static final", f.getModifiers(), all);
            due.is(names[i], f.getInt(null), values[i]);
        }
    }

    private static void classesInside() {
        Set<String> open = new TreeSet<>();
        for (String method : FACE) {
            open.add(method.substring(method.indexOf(' ') + 1, method.indexOf('(')));
        }
        Class<?>[] inside = ExactTests.class.getDeclaredClasses();
        due.isTrue("at most twelve classes", inside.length + 1 <= 12);
        for (Class<?> c : inside) {
            due.isTrue(c + " is static", Modifier.isStatic(c.getModifiers()));
            for (Method m : c.getDeclaredMethods()) {
                due.isTrue(m + " bears no name of the face", !open.contains(m.getName()));
                due.isTrue(m + " takes at most seven", m.getParameterCount() <= 7);
            }
            fields(c);
        }
        fields(ExactTests.class);
    }

    private static void fields(Class<?> c) {
        int own = 0;
        for (Field f : c.getDeclaredFields()) {
            boolean isStatic = Modifier.isStatic(f.getModifiers());
            own += isStatic ? 0 : 1;
            due.isTrue(f + " is final, if it is static", !isStatic || Modifier.isFinal(f.getModifiers()));
        }
        due.isTrue(c + " has at most twenty fields", own <= 20);
    }

    private static void source(String text) {
        String code = text.replaceAll("(?s)/\\*.*?\\*/", "").replaceAll("//[^\n]*", "");
        String[] words = {"throw", "throws", "try", "catch", "finally", "synchronized", "assert", "import",
            "package", "native", "volatile", "transient", "strictfp", "double", "float", "Object", "Thread",
            "Random", "hashCode", "toString", "equals", "BigInteger", "nanoTime", "currentTimeMillis", "protected",
            "Exception", "Error"};
        for (String word : words) {
            due.isTrue("no " + word, !Pattern.compile("\\b" + word + "\\b").matcher(code).find());
        }
        for (String sign : new String[] {"->", "::", "@", "Exact(", "static {", "\""}) {
            due.isTrue("no " + sign, !code.contains(sign));
        }
        Matcher called = Pattern.compile("\\b(Math|Integer|Long|System|Arrays)\\.(\\w+)").matcher(text);
        Set<String> known = Set.of("Math.max", "Math.min", "Math.abs", "Math.floorDiv",
            "Long.numberOfLeadingZeros", "System.arraycopy");
        while (called.find()) {
            due.isTrue("the library has " + called.group(), known.contains(called.group()));
        }
        due.isTrue("characters 0 to 255 alone", text.chars().allMatch(c -> c < 256));
        methodsStayShort(code);
    }

    private static void methodsStayShort(String code) {
        int start = 0;
        String[] lines = code.split("\n");
        for (int i = 0; i < lines.length; i++) {
            if (lines[i].matches(" {4,8}[\\w].*\\) \\{") && !lines[i].matches(".*\\b(if|for|while|switch)\\b.*")) {
                start = i;
            } else if (lines[i].matches(" {4,8}\\}")) {
                due.isTrue("the method at line " + start + " is short", i - start <= 60 || start == 0);
                start = 0;
            }
        }
    }
}
