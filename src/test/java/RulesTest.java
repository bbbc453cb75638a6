import java.io.PrintWriter;
import java.io.StringWriter;
import java.lang.reflect.Constructor;
import java.lang.reflect.Field;
import java.lang.reflect.Method;
import java.lang.reflect.Modifier;
import java.nio.file.Path;
import java.util.Set;
import java.util.TreeSet;
import java.util.regex.Matcher;
import java.util.regex.Pattern;
import java.util.spi.ToolProvider;

/** The public face, and those rules of LANGUAGE.md that can be read off the compiled class. */
public final class RulesTest {
    private static final Check CHECK = new Check("RulesTest");

    private static final String[] FACE = {
        "int set(int,int)", "int stream(int,int,int)", "int write(int,int)", "int sell(int,int)", "int giveBack(int,int)",
        "int pass(int)", "int ofDrive(int,int)", "int hour(int,int)", "int streak(int)", "int share(int)", "long mean(int)",
        "int count(int)", "int loudIn(int,int)", "int freeIn(int,int)", "int mostHeld(int,int)", "int firstSafe(int)",
        "int leastRoom(int)", "int put(long)", "int wipe()", "int fault()", "int carryOut()", "int undo()", "int save(int)",
        "int restore(int)"};

    private static final Set<String> LIBRARY = Set.of("java/lang/Object.\"<init>\":()V",
        "java/lang/System.arraycopy:(Ljava/lang/Object;ILjava/lang/Object;II)V",
        "java/lang/Math.min:(II)I", "java/lang/Math.max:(II)I");

    public static void main(String[] args) throws Exception {
        face();
        constants();
        String code = compiledCode();
        library(code);
        noObjectsInCalls(code);
        nothingIsThrown(code);
        CHECK.end();
    }

    private static void face() {
        CHECK.due("the class is public and final", SilentDrives.class.getModifiers(), Modifier.PUBLIC | Modifier.FINAL);
        Set<String> due = new TreeSet<>(Set.of(FACE));
        Set<String> names = new TreeSet<>();
        Set<String> got = new TreeSet<>();
        for (Method method : SilentDrives.class.getDeclaredMethods()) {
            if (Modifier.isPrivate(method.getModifiers())) {
                continue;
            }
            CHECK.due("modifiers of " + method.getName(), method.getModifiers(), Modifier.PUBLIC);
            StringBuilder line = new StringBuilder(method.getReturnType() + " " + method.getName() + "(");
            for (Class<?> type : method.getParameterTypes()) {
                line.append(line.charAt(line.length() - 1) == '(' ? "" : ",").append(type);
            }
            got.add(line.append(')').toString());
            names.add(method.getName());
        }
        CHECK.same("the methods of the face", got.toString(), due.toString());
        for (Class<?> type : inAllClasses()) {
            for (Method method : type.getDeclaredMethods()) {
                boolean onFace = Modifier.isPublic(method.getModifiers());
                CHECK.due(type + " " + method.getName(), names.contains(method.getName()) && !onFace ? 1 : 0, 0);
            }
        }
        Constructor<?>[] constructors = SilentDrives.class.getDeclaredConstructors();
        CHECK.due("constructors", constructors.length, 1);
        CHECK.due("its modifiers", constructors[0].getModifiers(), Modifier.PUBLIC);
        CHECK.due("its parameters", constructors[0].getParameterCount(), 0);
        CHECK.due("too many classes", inAllClasses().length > 12 ? 1 : 0, 0);
    }

    private static Class<?>[] inAllClasses() {
        Class<?>[] inside = SilentDrives.class.getDeclaredClasses();
        Class<?>[] all = new Class<?>[inside.length + 1];
        System.arraycopy(inside, 0, all, 1, inside.length);
        all[0] = SilentDrives.class;
        return all;
    }

    private static void constants() throws IllegalAccessException {
        Set<String> got = new TreeSet<>();
        for (Class<?> type : inAllClasses()) {
            for (Field field : type.getDeclaredFields()) {
                int modifiers = field.getModifiers();
                if (Modifier.isPublic(modifiers)) {
                    CHECK.due("modifiers of " + field, modifiers, Modifier.PUBLIC | Modifier.STATIC | Modifier.FINAL);
                    got.add(field.getType() + " " + field.getName() + " = " + field.getInt(null));
                } else if (type == SilentDrives.class) {
                    CHECK.due(field + " is private", Modifier.isPrivate(modifiers) ? 1 : 0, 1);
                }
                if (Modifier.isStatic(modifiers)) {
                    CHECK.due(field + " is final", Modifier.isFinal(modifiers) ? 1 : 0, 1);
                    String kind = field.getType().getSimpleName();
                    boolean allowed = Set.of("int", "long", "boolean", "char", "String", "int[]", "long[]", "char[]", "byte[]")
                            .contains(kind);
                    CHECK.due(field + " is of a type that a constant may have", allowed ? 1 : 0, 1);
                }
            }
        }
        CHECK.same("the constants", got.toString(), "[int BAD_TEXT = -3, int BAD_VALUE = -2, int BONUS = 2, int FINE = 1, "
                + "int HIGH = 4, int LOW = 3, int NONE = -6, int NOT_POSSIBLE = -5, int NO_SUCH = -1, int PRICE = 0, "
                + "int ROOM = 6, int SPEED = 5, int TOO_MANY = -4]");
    }

    private static String compiledCode() throws Exception {
        ToolProvider javap = ToolProvider.findFirst("javap").orElseThrow();
        Path folder = Path.of(SilentDrives.class.getProtectionDomain().getCodeSource().getLocation().toURI());
        StringWriter code = new StringWriter();
        for (Class<?> type : inAllClasses()) {
            PrintWriter out = new PrintWriter(code);
            int failed = javap.run(out, out, "-c", "-p", folder.resolve(type.getName() + ".class").toString());
            out.flush();
            CHECK.due("javap of " + type, failed, 0);
        }
        return code.toString();
    }

    private static void library(String code) {
        Matcher used = Pattern.compile("(?:Method|InterfaceMethod|Field) (java[^\\s]*)").matcher(code);
        int calls = 0;
        while (used.find()) {
            calls++;
            CHECK.due("use of " + used.group(1) + " is allowed", LIBRARY.contains(used.group(1)) ? 1 : 0, 1);
        }
        CHECK.due("uses of the library were found", calls > 0 ? 1 : 0, 1);
        CHECK.due("lambdas and joined texts", code.contains("invokedynamic") ? 1 : 0, 0);
    }

    /** All calls of a run live in one room: rows are made by constructors alone, and used again. */
    private static void noObjectsInCalls(String code) {
        Pattern method = Pattern.compile("^  \\S.*\\(.*\\).*;$|^  static \\{\\};$");
        Pattern makes = Pattern.compile("^ +\\d+: (new|newarray|anewarray|multianewarray)\\b.*");
        boolean inConstructor = false;
        int made = 0;
        for (String line : code.split("\n")) {
            if (method.matcher(line).matches()) {
                inConstructor = line.startsWith("  static {}") || line.matches("^  (public |private )?SilentDrives[\\w$]*\\(.*");
            } else if (makes.matcher(line).matches()) {
                made++;
                CHECK.due("made by a constructor: " + line.trim(), inConstructor ? 1 : 0, 1);
            }
        }
        CHECK.due("objects made by constructors were found", made > 0 ? 1 : 0, 1);
    }

    private static void nothingIsThrown(String code) {
        CHECK.due("throw", code.contains("athrow") ? 1 : 0, 0);
        CHECK.due("catch", code.contains("Exception table") ? 1 : 0, 0);
    }
}
