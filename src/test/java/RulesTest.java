import java.io.IOException;
import java.lang.management.ManagementFactory;
import java.lang.reflect.Constructor;
import java.lang.reflect.Field;
import java.lang.reflect.Method;
import java.lang.reflect.Modifier;
import java.nio.file.Files;
import java.nio.file.Path;
import java.util.Set;
import java.util.TreeSet;
import java.util.regex.Matcher;
import java.util.regex.Pattern;

/** What LANGUAGE.md asks of the program and a test can see: the face, the words it does without, what it makes. */
public final class RulesTest {
    private static final Path SOURCE = Path.of("src/main/java/ForkInn.java");
    private static final Path DOCUMENT = Path.of("../shared/DOC.md");
    private static int wrong = 0;

    private static void must(boolean good, String what) {
        if (!good) {
            wrong++;
            System.out.println(what);
        }
    }

    public static void main(String[] args) throws IOException {
        face();
        members();
        words();
        anyArguments();
        nothingMade();
        System.out.println(wrong == 0 ? "the rules are kept" : wrong + " rules are not kept");
        if (wrong != 0) {
            System.exit(1);
        }
    }

    /** Rule 1: the document's methods, and no other that can be seen from outside. */
    private static void face() throws IOException {
        Set<String> promised = new TreeSet<>();
        Matcher m = Pattern.compile("public (int|long) (\\w+)\\(([^)]*)\\);").matcher(Files.readString(DOCUMENT));
        while (m.find()) {
            promised.add(m.group(1) + " " + m.group(2) + "(" + m.group(3).replaceAll(" \\w+(,|$)", "$1") + ")");
        }
        Set<String> there = new TreeSet<>();
        Set<String> publicNames = new TreeSet<>();
        for (Method method : ForkInn.class.getDeclaredMethods()) {
            if (Modifier.isPublic(method.getModifiers())) {
                there.add(signature(method));
                publicNames.add(method.getName());
            }
        }
        must(promised.size() == 42, "the document's face wasn't read: " + promised);
        must(there.equals(promised), "the face is " + there + ", due is " + promised);
        for (Method method : ForkInn.class.getDeclaredMethods()) {
            int modifiers = method.getModifiers();
            must(Modifier.isPublic(modifiers) || Modifier.isPrivate(modifiers), method + " can be seen from outside");
            must(Modifier.isPublic(modifiers) || !publicNames.contains(method.getName()),
                method + " bears the name of a public one");
        }
        for (Class<?> inside : ForkInn.class.getDeclaredClasses()) {
            for (Method method : inside.getDeclaredMethods()) {
                must(!publicNames.contains(method.getName()), method + " bears the name of a public one");
            }
        }
        Constructor<?>[] made = ForkInn.class.getDeclaredConstructors();
        must(made.length == 1 && Modifier.isPublic(made[0].getModifiers()) && made[0].getParameterCount() == 0,
            "there must be one constructor, public, without arguments");
        must(Modifier.isFinal(ForkInn.class.getModifiers()), "the class must be final");
    }

    private static String signature(Method method) {
        StringBuilder s = new StringBuilder(method.getReturnType() + " " + method.getName() + "(");
        for (int k = 0; k < method.getParameterCount(); k++) {
            s.append(k == 0 ? "" : ", ").append(method.getParameterTypes()[k]);
        }
        return s.append(")").toString();
    }

    /** Rules 1, 2, 5, 11: fields private, what is static final, classes static, not too many of anything. */
    private static void members() {
        for (Field field : ForkInn.class.getDeclaredFields()) {
            must(Modifier.isPrivate(field.getModifiers()), field + " must be private");
        }
        must(ForkInn.class.getDeclaredClasses().length < 12, "too many classes");
        for (Class<?> inside : ForkInn.class.getDeclaredClasses()) {
            must(Modifier.isStatic(inside.getModifiers()), inside + " must be static");
            must(!Modifier.isPublic(inside.getModifiers()), inside + " must not be public");
            fields(inside);
        }
        fields(ForkInn.class);
    }

    private static void fields(Class<?> of) {
        int held = 0;
        for (Field field : of.getDeclaredFields()) {
            if (Modifier.isStatic(field.getModifiers())) {
                must(Modifier.isFinal(field.getModifiers()), field + " must be final");
            } else {
                held++;
            }
        }
        must(held <= 20, of + " has too many fields");
        for (Method method : of.getDeclaredMethods()) {
            must(method.getParameterCount() <= 7, method + " takes too much");
        }
    }

    /** Rules 2, 4, 6: what must not be in the text of the program. */
    private static void words() throws IOException {
        String code = Files.readString(SOURCE);
        for (char c : code.toCharArray()) {
            must(c < 128, "a sign beyond 127: " + c);
        }
        code = code.replaceAll("(?s)/\\*.*?\\*/", " ").replaceAll("//[^\n]*", " ").replaceAll("\"[^\"]*\"", "\"\"");
        String[] banned = {"throw", "throws", "try", "catch", "finally", "synchronized", "assert", "import", "package",
            "native", "transient", "volatile", "goto", "protected", "equals", "hashCode", "toString", "Random", "Thread",
            "Object", "var", "yield"};
        for (String word : banned) {
            must(!Pattern.compile("\\b" + word + "\\b").matcher(code).find(), "the word " + word);
        }
        must(!code.contains("->"), "an arrow");
        must(!code.contains("::"), "a method reference");
        Matcher library = Pattern.compile("\\b(System|Math|Integer|Long|Arrays)\\.(\\w+)").matcher(code);
        Set<String> allowed = Set.of("System.arraycopy", "Math.min", "Math.max", "Integer.bitCount");
        while (library.find()) {
            must(allowed.contains(library.group()), "of the library: " + library.group());
        }
        shortMethods(code);
    }

    /** Rule 11: methods of some sixty lines. */
    private static void shortMethods(String code) {
        int begin = 0;
        int line = 0;
        for (String text : code.split("\n")) {
            line++;
            if (text.matches(" {4}( {4})?[\\w\\[\\] ]+\\(.*\\) \\{")) {
                begin = line;
            }
            if (text.matches(" {4}( {4})?\\}")) {
                must(begin == 0 || line - begin < 60, "a long method ends in line " + line);
                begin = 0;
            }
        }
    }

    /** Rule 7: no call throws, whatever it is given, in a new inn and in one that is full. */
    private static void anyArguments() {
        int[] values = {Integer.MIN_VALUE, Integer.MIN_VALUE + 1, -1000001, -2, -1, 0, 1, 2, 5, 6, 7, 8, 9, 10, 11, 12,
            20, 32, 39, 40, 41, 60, 61, 99, 100, 101, 9999, 10000, 99999, 100000, Integer.MAX_VALUE - 1,
            Integer.MAX_VALUE};
        for (Method method : ForkInn.class.getDeclaredMethods()) {
            if (!Modifier.isPublic(method.getModifiers())) {
                continue;
            }
            int arguments = method.getParameterCount();
            ForkInn[] inns = {new ForkInn(), fullInn()};
            for (ForkInn x : inns) {
                for (int k = 0; k < 300; k++) {
                    Object[] given = new Object[arguments];
                    for (int a = 0; a < arguments; a++) {
                        given[a] = values[(k * (2 * a + 1) + 7 * a + k / values.length * a) % values.length];
                    }
                    callOnce(method, x, given);
                }
            }
        }
    }

    private static void callOnce(Method method, ForkInn x, Object[] given) {
        try {
            method.invoke(x, given);
        } catch (ReflectiveOperationException e) {
            must(false, method + " of " + java.util.Arrays.toString(given) + " threw " + e.getCause());
        }
    }

    private static ForkInn fullInn() {
        ForkInn x = new ForkInn();
        for (int d = 0; d < 8; d++) {
            x.dish(d % 7, d, d + 1);
        }
        for (int g = 0; g < 6; g++) {
            x.guest(19 * g);
            x.list(g, g, g + 2);
        }
        for (int s = 0; s < 4; s++) {
            x.sheet(s, s == 3 ? 32 : 8, 40);
            x.write(s, 1, -1);
        }
        for (int k = 0; k < 10; k++) {
            x.hold(k, k % 8);
        }
        for (int k = 0; k < 30; k++) {
            x.feed(0x70696520, 4);
        }
        x.image();
        return x;
    }

    /** All calls of a run live in one room: the constructor makes what they use, and they make nothing. */
    private static void nothingMade() {
        com.sun.management.ThreadMXBean room =
            (com.sun.management.ThreadMXBean) ManagementFactory.getThreadMXBean();
        if (!room.isThreadAllocatedMemorySupported()) {
            return;
        }
        long id = Thread.currentThread().getId();
        ForkInn warm = fullInn();
        ForkInn x = fullInn();
        everyCall(warm, 3);
        room.getThreadAllocatedBytes(id);
        long before = room.getThreadAllocatedBytes(id);
        everyCall(x, 100);
        long made = room.getThreadAllocatedBytes(id) - before;
        // The bean makes a little itself.
        must(made < 4096, "the calls made " + made + " bytes");
    }

    private static void everyCall(ForkInn x, int times) {
        for (int k = 0; k < times; k++) {
            x.list(1, 2, 3);
            x.would(1, 2, 3);
            x.eat(1, 2);
            x.go(9);
            x.now(7);
            x.ahead(1, 2, 100);
            x.served(1, 100);
            x.when(1, 11);
            x.owes(1, 99999);
            x.part(1, 2);
            x.dishFor(1, 60);
            x.kindFor(1, 60);
            x.bentFor(1, 10, 60);
            x.courses(1, 11);
            x.strike(1, 1, 20);
            x.fits(0, 1);
            x.kinds(0, 1, 1);
            x.coach(20);
            x.odds(1, 3, 9, 0);
            x.feed(0x6d65616c, 4);
            x.feed(0x20312032, 4);
            x.feed(0x2033, 2);
            x.text();
            x.hold(1, 2);
            x.as(1, 1);
            x.sheet(2, 8, 40);
            x.write(0, 3, 4);
            x.copy(0, 0, 1, 1, 30);
            x.load(0);
            x.judge(0);
            x.image();
            x.undo();
            x.count(4);
            x.status(9);
        }
    }
}
