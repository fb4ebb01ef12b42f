import java.io.IOException;
import java.lang.reflect.Constructor;
import java.lang.reflect.Field;
import java.lang.reflect.Method;
import java.lang.reflect.Modifier;
import java.nio.charset.StandardCharsets;
import java.nio.file.Files;
import java.nio.file.Path;
import java.util.ArrayList;
import java.util.Arrays;
import java.util.List;
import java.util.Set;
import java.util.TreeSet;
import java.util.regex.Matcher;
import java.util.regex.Pattern;

/** The class's members, its source by the rules of LANGUAGE.md that can be looked up, and how much room it takes. */
public final class FaceTests {
    private static final String SOURCE = "src/main/java/FittingStrides.java";
    private static final String DOCUMENT = "../shared/DOC.md";

    /** As the document has it; a method's line without "public" and its names. */
    private static final String[] FACE = {
        "int feed(int, long)", "int town()", "int fault()", "int told(int)", "int stair(int, int)", "int person(int, int)",
        "int fit(int, int)", "int go(int, int)", "int build(int, int, int)", "int law(int)", "int drift(int)", "int reach(int, int)",
        "int guests(int)", "int wish(int, int)", "int pair(int, int, int)", "int carried(int, int, int)",
        "int step(int, int, int, int)", "int worst(int)", "int best(int)", "int cover()", "int see(int, int, boolean)", "int fits()",
        "int ask()", "int write(int, int)", "int tear()", "int judge()", "int seed(int)", "int keep(int)", "int goBack(int)"};

    private static int wrong = 0;

    private static void check(boolean right, String what) {
        if (!right) {
            wrong++;
            System.out.println("wrong: " + what);
        }
    }

    private static String line(Method m) {
        List<String> types = new ArrayList<>();
        for (Class<?> type : m.getParameterTypes()) {
            types.add(type.getSimpleName());
        }
        return m.getReturnType().getSimpleName() + " " + m.getName() + "(" + String.join(", ", types) + ")";
    }

    private static void face() {
        Class<?> c = FittingStrides.class;
        check(Modifier.isPublic(c.getModifiers()) && Modifier.isFinal(c.getModifiers()), "the class is public and final");
        Set<String> open = new TreeSet<>();
        Set<String> openNames = new TreeSet<>();
        for (Method m : c.getDeclaredMethods()) {
            if (!Modifier.isPrivate(m.getModifiers()) && !m.isSynthetic()) {
                check(Modifier.isPublic(m.getModifiers()) && !Modifier.isStatic(m.getModifiers()), "public: " + m);
                open.add(line(m));
                openNames.add(m.getName());
            }
        }
        check(open.equals(new TreeSet<>(Arrays.asList(FACE))), "the methods are those of the document: " + open);
        Set<String> fields = new TreeSet<>();
        for (Field f : c.getDeclaredFields()) {
            if (!Modifier.isPrivate(f.getModifiers()) && !f.isSynthetic()) {
                fields.add(Modifier.toString(f.getModifiers()) + " " + f.getType() + " " + f.getName());
            }
        }
        Set<String> constants = new TreeSet<>();
        for (String name : new String[] {"NONE", "UNKNOWN", "OUTSIDE", "NOT", "FULL"}) {
            constants.add("public static final int " + name);
        }
        check(fields.equals(constants), "the constants are those of the document: " + fields);
        Constructor<?>[] makers = c.getDeclaredConstructors();
        check(makers.length == 1 && makers[0].getParameterCount() == 0 && Modifier.isPublic(makers[0].getModifiers()), "one constructor");
        for (Class<?> inner : c.getDeclaredClasses()) {
            check(Modifier.isStatic(inner.getModifiers()) && !Modifier.isPublic(inner.getModifiers()), "static: " + inner);
            inside(inner, openNames);
        }
        check(c.getDeclaredClasses().length <= 11, "twelve classes at most");
        inside(c, Set.of());
    }

    private static void inside(Class<?> c, Set<String> openNames) {
        int fields = 0;
        for (Field f : c.getDeclaredFields()) {
            boolean fixed = Modifier.isStatic(f.getModifiers());
            fields += fixed ? 0 : 1;
            check(!fixed || Modifier.isFinal(f.getModifiers()), "static fields are final: " + f);
        }
        check(fields <= 20, "twenty fields at most: " + c);
        for (Method m : c.getDeclaredMethods()) {
            check(m.getParameterCount() <= 7, "seven parameters at most: " + m);
            check(!openNames.contains(m.getName()), "no other method bears a public one's name: " + m);
        }
    }

    private static String withoutComments(String source) {
        return source.replaceAll("(?s)/\\*.*?\\*/", " ").replaceAll("//[^\n]*", " ");
    }

    private static void source() throws IOException {
        String source = Files.readString(Path.of(SOURCE), StandardCharsets.UTF_8);
        check(source.chars().allMatch(c -> c == '\n' || c >= 32 && c < 127), "plain signs alone");
        String code = withoutComments(source).replaceAll("\"[^\"\n]*\"", "\"\"");
        String[] words = {"throw", "throws", "try", "catch", "finally", "synchronized", "assert", "package", "import", "volatile",
            "native", "var", "System", "Object", "protected", "hashCode", "toString", "Thread"};
        for (String word : words) {
            check(!Pattern.compile("\\b" + word + "\\b").matcher(code).find(), "not allowed: " + word);
        }
        check(!code.contains("->") && !code.contains("::"), "no lambda, no method reference");
        Matcher library = Pattern.compile("\\b(Integer|Long|Math)\\.(\\w+)").matcher(code);
        while (library.find()) {
            check(List.of("bitCount", "abs", "max", "min", "compare").contains(library.group(2)), "library: " + library.group());
        }
        Matcher body = Pattern.compile("(?m)^( {4}| {8})(?!private static final class)\\S[^;={}]*\\) \\{$").matcher(source);
        int methods = 0;
        while (body.find()) {
            int end = source.indexOf("\n" + body.group(1) + "}\n", body.end());
            long lines = source.substring(body.start(), end).lines().count();
            check(lines <= 60, "sixty lines at most: " + body.group());
            methods++;
        }
        check(methods > FACE.length, "the methods' lengths were looked at");
    }

    /** The document's face, word for word and in its order; FACE stands in where the document is not at hand. */
    private static void document() throws IOException {
        if (!Files.exists(Path.of(DOCUMENT))) {
            System.out.println("not looked at: " + DOCUMENT);
            return;
        }
        String document = Files.readString(Path.of(DOCUMENT), StandardCharsets.UTF_8);
        String source = Files.readString(Path.of(SOURCE), StandardCharsets.UTF_8);
        Matcher lines = Pattern.compile("(?m)^    (public [^;]*);$").matcher(document);
        int at = 0;
        int seen = 0;
        while (lines.find()) {
            boolean constants = lines.group(1).contains("=");
            int found = source.indexOf("\n    " + lines.group(1) + (constants ? ";\n" : " {\n"), at);
            check(found >= 0, "the document's line in its place: " + lines.group(1));
            at = Math.max(at, found);
            seen++;
        }
        check(seen == FACE.length + 2, "the document has " + seen + " lines");
        parts(document, source);
    }

    /** Each part of the interface begins with the words that the document puts ahead of its calls. */
    private static void parts(String document, String source) {
        Matcher parts = Pattern.compile("(?m)^Ahead of the calls `(\\w+)`(?:, `\\w+`)* the interface says: (---- .*)\\.$").matcher(document);
        int seen = 0;
        while (parts.find()) {
            String begin = "    // " + parts.group(2) + "\n\n    public int " + parts.group(1) + "(";
            check(source.contains(begin), "the part begins so: " + begin);
            seen++;
        }
        check(seen == 5, "the document has " + seen + " parts");
    }

    /** Objects of the class and all that they hold, by walking over the fields. */
    private static long[] room(Object o) throws IllegalAccessException {
        long[] sum = {1, 0};
        for (Field f : o.getClass().getDeclaredFields()) {
            if (!Modifier.isStatic(f.getModifiers())) {
                sum[1]++;
                f.setAccessible(true);
                add(sum, f.get(o));
            }
        }
        return sum;
    }

    private static void add(long[] sum, Object held) throws IllegalAccessException {
        if (held != null && held.getClass().isArray()) {
            int length = java.lang.reflect.Array.getLength(held);
            sum[0]++;
            sum[1] += length;
            for (int i = 0; i < length && held instanceof Object[]; i++) {
                add(sum, java.lang.reflect.Array.get(held, i));
            }
        } else if (held != null && held.getClass().getName().startsWith("FittingStrides")) {
            long[] more = room(held);
            sum[0] += more[0];
            sum[1] += more[1];
        }
    }

    private static void noObjectInMethods() throws IOException {
        String code = withoutComments(Files.readString(Path.of(SOURCE), StandardCharsets.UTF_8));
        Matcher made = Pattern.compile("(?m)^.*\\bnew\\b.*$").matcher(code);
        while (made.find()) {
            boolean field = made.group().matches(" {8}(private )?final \\S+ \\w+ = new .*");
            boolean maker = made.group().matches(" {8,12}(text|now|images|images\\[i\\]|kept|sights|book) = new .*");
            check(field || maker, "objects are made with the object alone: " + made.group());
        }
    }

    public static void main(String[] args) throws IOException, IllegalAccessException {
        face();
        document();
        source();
        noObjectInMethods();
        long[] room = room(new FittingStrides());
        check(room[0] <= 80 && room[1] <= 1500, "room of one object: " + room[0] + " objects, " + room[1] + " fields and elements");
        System.out.println(wrong == 0 ? "the face and the source are as due" : wrong + " things are not as due");
        if (wrong != 0) {
            System.exit(1);
        }
    }
}
