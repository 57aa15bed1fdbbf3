import java.io.IOException;
import java.lang.management.ManagementFactory;
import java.lang.reflect.Constructor;
import java.lang.reflect.Field;
import java.lang.reflect.Method;
import java.lang.reflect.Modifier;
import java.nio.charset.StandardCharsets;
import java.nio.file.Files;
import java.nio.file.Path;
import java.util.Arrays;
import java.util.HashSet;
import java.util.Set;
import java.util.TreeSet;
import java.util.regex.Pattern;

/**
 * The rules of LANGUAGE.md that can be looked up: the face, names, words, lengths and the room
 * that calls take. Its arguments are the paths of PotLabels.java and of the document.
 */
public final class LanguageTest {
    private static final String[] FACE = {
        "int append(int) IAE ISE", "int apart(int,int,int) IOOBE", "double apartShare()", "int bestPainter()",
        "int borrow(int,int) IOOBE", "int chartOf(int,int) IOOBE IAE", "int clearBuffer()",
        "int correct(int,int) IOOBE", "int count(int) IAE", "long digest()", "int fewest(int,int) IOOBE IAE",
        "int firstError()", "int goBack(int) IAE ISE", "int hang(int,int) IOOBE IAE",
        "int ifBorrowed(int,int) IOOBE", "int keep(int) IAE", "int label(int,int) IOOBE IAE",
        "int labelAll(int) IOOBE", "int leastChange(int,int,int) IOOBE IAE", "int load() IAE",
        "int mix(int,int,int) IOOBE IAE", "int painter(int,int,int) IOOBE IAE",
        "int painterOf(int,int) IOOBE IAE", "int potOf(int,int) IOOBE IAE", "int seen(int,int) IOOBE",
        "int takeDown(int) IOOBE", "int undo() ISE"};

    public static void main(String[] args) throws IOException {
        face();
        membersOfTheClass();
        classesInside();
        String source = Files.readString(Path.of(args[0]), StandardCharsets.ISO_8859_1);
        linesOfTheFace(source, Files.readString(Path.of(args[1]), StandardCharsets.UTF_8));
        signs(source);
        words(withoutComments(source));
        lengths(source);
        roomOfCalls();
        Check.finish();
    }

    private static String spell(Method method) {
        StringBuilder text = new StringBuilder();
        text.append(method.getReturnType().getName()).append(' ').append(method.getName()).append('(');
        Class<?>[] types = method.getParameterTypes();
        for (int i = 0; i < types.length; i++) {
            text.append(i > 0 ? "," : "").append(types[i].getName());
        }
        text.append(')');
        for (Class<?> type : method.getExceptionTypes()) {
            text.append(' ').append(type.getSimpleName().replaceAll("[a-z]", ""));
        }
        return text.toString();
    }

    private static void face() {
        Set<String> got = new TreeSet<>();
        for (Method method : PotLabels.class.getDeclaredMethods()) {
            if (Modifier.isPublic(method.getModifiers())) {
                got.add(spell(method));
            }
        }
        Set<String> want = new TreeSet<>();
        for (String method : FACE) {
            want.add(method);
        }
        Check.isTrue("the face is " + got, want.equals(got));
        Check.equal("modifiers", Modifier.PUBLIC | Modifier.FINAL, PotLabels.class.getModifiers());
        Check.isTrue("no class above it", PotLabels.class.getSuperclass() == Object.class);
        Constructor<?>[] constructors = PotLabels.class.getDeclaredConstructors();
        Check.equal("constructors", 1, constructors.length);
        Check.equal("its parameters", 0, constructors[0].getParameterCount());
        Check.isTrue("it is public", Modifier.isPublic(constructors[0].getModifiers()));
    }

    /** Each line of the face stands in the class as it stands in the document. */
    private static void linesOfTheFace(String source, String document) {
        int lines = 0;
        for (String line : document.split("\n")) {
            if (line.startsWith("    public ")) {
                lines++;
                String bare = line.substring(0, line.length() - 1);
                boolean stands = source.contains("\n" + bare + ";\n") || source.contains("\n" + bare + " {\n");
                Check.isTrue("the class has no line" + line, line.endsWith(";") && stands);
            }
        }
        Check.equal("lines of the face", FACE.length + 2, lines);
    }

    private static void membersOfTheClass() {
        for (Method method : PotLabels.class.getDeclaredMethods()) {
            int modifiers = method.getModifiers();
            boolean fits = Modifier.isPublic(modifiers) || Modifier.isPrivate(modifiers);
            Check.isTrue(method + " is public or private", fits);
        }
        for (Field field : PotLabels.class.getDeclaredFields()) {
            boolean constant = field.getName().equals("NONE") && Modifier.isPublic(field.getModifiers());
            Check.isTrue(field + " is private", constant || Modifier.isPrivate(field.getModifiers()));
            Check.isTrue(field + " is final", Modifier.isFinal(field.getModifiers()));
        }
    }

    private static void classesInside() {
        Set<String> names = new HashSet<>();
        for (Method method : PotLabels.class.getDeclaredMethods()) {
            if (Modifier.isPublic(method.getModifiers())) {
                names.add(method.getName());
            }
        }
        Class<?>[] inside = PotLabels.class.getDeclaredClasses();
        Check.isTrue("some twelve classes at most", inside.length <= 11);
        for (Class<?> one : inside) {
            Check.isTrue(one + " is static", Modifier.isStatic(one.getModifiers()));
            Check.isTrue(one + " is not public", !Modifier.isPublic(one.getModifiers()));
            for (Method method : one.getDeclaredMethods()) {
                Check.isTrue(method + " bears a name of the face", !names.contains(method.getName()));
            }
            for (Field field : one.getDeclaredFields()) {
                boolean fixed = !Modifier.isStatic(field.getModifiers()) || Modifier.isFinal(field.getModifiers());
                Check.isTrue(field + " is static and final", fixed);
            }
        }
        for (Method method : PotLabels.class.getDeclaredMethods()) {
            boolean hidden = Modifier.isPrivate(method.getModifiers());
            Check.isTrue(method + " bears a name of the face", !hidden || !names.contains(method.getName()));
        }
    }

    private static void signs(String source) {
        for (int i = 0; i < source.length(); i++) {
            char sign = source.charAt(i);
            if (sign < 1 || sign > 126) {
                Check.isTrue("the sign " + (int) sign + " at " + i, false);
            }
        }
    }

    private static String withoutComments(String source) {
        return source.replaceAll("(?s)/\\*.*?\\*/", "").replaceAll("//[^\n]*", "");
    }

    private static void words(String text) {
        String code = text.replaceAll("\"[^\"]*\"", "\"\"");
        String[] barred = {"import", "package", "Exact", "synchronized", "assert", "finally", "catch", "try", "->",
            "::", "out", "Double", "Float", "Object", "Thread", "Random", "getMessage", "instanceof", "native",
            "volatile", "transient", "extends", "implements", "println", "format", "valueOf", "toString",
            "hashCode", "nanoTime", "currentTimeMillis", "getenv", "var"};
        for (String word : barred) {
            String pattern = Character.isLetter(word.charAt(0)) && !word.equals("Exact") ? "\\b" + word + "\\b" : word;
            Check.isTrue("the word " + word, !Pattern.compile(pattern).matcher(code).find());
        }
        String thrown = "throw new (IllegalStateException|IllegalArgumentException|IndexOutOfBoundsException)"
                + "\\(\"\"\\);";
        String rest = code.replaceAll(thrown, "");
        Check.isTrue("throws are plain", !Pattern.compile("\\bthrow\\b").matcher(rest).find());
        String library = "\\b(Integer|Long|Math|System|Arrays|String)\\.(?!bitCount|abs|min|arraycopy)";
        Check.isTrue("other calls of the library", !Pattern.compile(library).matcher(code).find());
    }

    /** A method starts with a line that ends with ") {" or "throws .. {", four or eight places in. */
    private static void lengths(String source) {
        String[] lines = source.split("\n");
        Pattern head = Pattern.compile("( {4}| {8})(public|private|static|final|int|boolean|void|long|double|[A-Z])"
                + ".*\\(.*\\{");
        int methods = 0;
        for (int i = 0; i < lines.length; i++) {
            if (head.matcher(lines[i]).matches() && !lines[i].contains(" class ")) {
                String end = lines[i].replaceAll("\\S.*", "") + "}";
                int last = i;
                while (!lines[last].equals(end)) {
                    last++;
                }
                methods++;
                Check.isTrue("the method at the line " + (i + 1) + " is short", last - i <= 60);
                String list = lines[i].substring(lines[i].indexOf('('), lines[i].indexOf(')'));
                Check.isTrue("it has at most seven parameters", list.split(",").length <= 7);
            }
        }
        Check.isTrue("the methods are found, " + methods, methods >= FACE.length + 20);
    }

    /** What a run makes is counted: a call that does not throw makes no object at all. */
    private static void roomOfCalls() {
        com.sun.management.ThreadMXBean counter =
                (com.sun.management.ThreadMXBean) ManagementFactory.getThreadMXBean();
        long id = Thread.currentThread().getId();
        long sum = busy(new PotLabels());
        PotLabels x = new PotLabels();
        counter.getThreadAllocatedBytes(id);
        long before = counter.getThreadAllocatedBytes(id);
        sum += busy(x);
        long bytes = counter.getThreadAllocatedBytes(id) - before;
        Check.isTrue("some 200 calls made " + bytes + " bytes of objects, sum " + sum, bytes < 2000);
        before = counter.getThreadAllocatedBytes(id);
        PotLabels y = new PotLabels();
        bytes = counter.getThreadAllocatedBytes(id) - before;
        Check.isTrue("a new object takes " + bytes + " bytes, digest " + y.digest(), bytes < 20000);
    }

    private static long busy(PotLabels x) {
        long sum = 0;
        for (int turn = 0; turn < 8; turn++) {
            sum += x.mix(turn, turn % 3, 9) + x.painter(turn % 4, 1, turn) + x.borrow(turn % 4, 1);
            sum += x.label(turn, turn) + x.hang(turn, 7 - turn) + x.correct(0, turn % 4);
            sum += x.labelAll(turn % 4) + x.keep(turn % 2);
            sum += x.append('0') + x.append('=') + x.append('1') + x.append('2') + x.append('3') + x.firstError();
            sum += x.load() + x.goBack(turn % 2) + x.clearBuffer() + x.fewest(0, 0) + x.fewest(0, 1) + x.undo();
            sum += x.leastChange(0, 1, 2) + x.bestPainter() + x.digest() + (long) x.apartShare() + x.count(3);
        }
        return sum + x.takeDown(0) + Arrays.hashCode(new int[] {x.count(7)});
    }
}
