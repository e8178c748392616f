import java.lang.reflect.Constructor;
import java.lang.reflect.Field;
import java.lang.reflect.Method;
import java.lang.reflect.Modifier;
import java.nio.file.Files;
import java.nio.file.Path;
import java.util.Arrays;
import java.util.Set;
import java.util.TreeSet;
import java.util.regex.Matcher;
import java.util.regex.Pattern;

/** The public face just as the document has it, and those rules of LANGUAGE.md that can be seen in the source. */
public final class FaceTest {
    private static final String[] FACE = {
        "write 1", "wipe 0", "fault 0", "lay 0", "minister 2", "step 2", "pass 1", "wax 1", "sand 1", "help 1",
        "undo 0", "governs 0", "behind 3", "slide 1", "top 1", "topple 1", "plot 3", "hold 2", "cabinet 1", "seen 2",
        "forget 0", "waxes 1", "grips 1", "likely 4", "century 3", "keep 0", "back 0", "count 1"};
    /** What no part of the source may hold, by rules 2, 4, 6, 9 and 13. */
    private static final String[] FORBIDDEN = {
        "\\bthrow\\b", "\\bthrows\\b", "\\btry\\b", "\\bcatch\\b", "\\bsynchronized\\b", "\\bassert\\b", "::",
        "^(?!\\s*(case|default)\\b).*->", "^package\\b", "\\bString\\.\\w", "\\bSystem\\.(?!arraycopy\\b)",
        "Exact\\b", "\\bRandom\\b", "\\bThread\\b", "\\bObject\\b", "\\bhashCode\\b", "\\bwhile\\s*\\(\\s*true",
        "\\bfor\\s*\\(\\s*;\\s*;", "^import (?!java\\.util\\.(Arrays|ArrayList|List|Iterator);)"};
    private static final int[] ANY = {Integer.MIN_VALUE, -1, 0, 2, 6, 16, 32, 40, 9999, Integer.MAX_VALUE};
    private static final int MOST_CLASSES = 12, MOST_FIELDS = 20, MOST_PARAMETERS = 7, MOST_LINES = 60;

    private static final Check check = new Check();

    public static void main(String[] args) throws Exception {
        constants();
        face();
        nestedClasses();
        neverThrows();
        source(Files.readString(Path.of(args.length > 0 ? args[0] : "src/main/java/BannisterCabinet.java")));
        check.end();
    }

    private static void constants() throws Exception {
        check.part("constants");
        check.due("BAD", BannisterCabinet.BAD, -1);
        check.due("NO", BannisterCabinet.NO, -2);
        check.due("FULL", BannisterCabinet.FULL, -3);
        check.due("NONE", BannisterCabinet.NONE, -4);
        int open = 0;
        for (Field field : BannisterCabinet.class.getDeclaredFields()) {
            open += Modifier.isPrivate(field.getModifiers()) ? 0 : 1;
        }
        check.due("fields that are not private", open, 4);
    }

    private static void face() {
        check.part("face");
        Class<?> face = BannisterCabinet.class;
        check.due("public and final", face.getModifiers(), Modifier.PUBLIC | Modifier.FINAL);
        Constructor<?>[] constructors = face.getDeclaredConstructors();
        check.due("constructors", constructors.length, 1);
        check.due("public constructor", constructors[0].getModifiers(), Modifier.PUBLIC);
        check.due("parameters of it", constructors[0].getParameterCount(), 0);
        Set<String> open = new TreeSet<>();
        Set<String> hidden = new TreeSet<>();
        for (Method method : face.getDeclaredMethods()) {
            if (Modifier.isPrivate(method.getModifiers())) {
                hidden.add(method.getName());
                continue;
            }
            open.add(method.getName() + " " + method.getParameterCount());
            check.due(method + " is public", method.getModifiers(), Modifier.PUBLIC);
            check.due(method + " is of int", takesAndAnswersInt(method) ? 1 : 0, 1);
        }
        check.due("methods " + open, open.equals(new TreeSet<>(Arrays.asList(FACE))) ? 1 : 0, 1);
        for (String call : FACE) {
            check.due("private " + call, hidden.contains(call.split(" ")[0]) ? 1 : 0, 0);
        }
    }

    private static boolean takesAndAnswersInt(Method method) {
        return method.getReturnType() == int.class
            && Arrays.stream(method.getParameterTypes()).allMatch(type -> type == int.class);
    }

    private static void nestedClasses() {
        check.part("classes inside");
        Class<?>[] inside = BannisterCabinet.class.getDeclaredClasses();
        check.due("at most twelve with the outer one", inside.length < MOST_CLASSES ? 1 : 0, 1);
        sizes(BannisterCabinet.class);
        for (Class<?> nested : inside) {
            int modifiers = nested.getModifiers();
            check.due(nested + " is static", Modifier.isStatic(modifiers) ? 1 : 0, 1);
            check.due(nested + " is open", modifiers & (Modifier.PUBLIC | Modifier.PROTECTED), 0);
            sizes(nested);
            for (Method method : nested.getDeclaredMethods()) {
                boolean hides = Modifier.isPrivate(method.getModifiers()) && isOfTheFace(method.getName());
                check.due(method + " is private with a name of the face", hides ? 1 : 0, 0);
            }
        }
    }

    private static boolean isOfTheFace(String name) {
        return Arrays.stream(FACE).anyMatch(call -> call.split(" ")[0].equals(name));
    }

    private static void sizes(Class<?> type) {
        int fields = 0;
        for (Field field : type.getDeclaredFields()) {
            boolean isStatic = Modifier.isStatic(field.getModifiers());
            fields += isStatic ? 0 : 1;
            check.due(field + " is static, not final", isStatic && !Modifier.isFinal(field.getModifiers()) ? 1 : 0, 0);
        }
        check.due(type + " has fields to twenty", fields <= MOST_FIELDS ? 1 : 0, 1);
        for (Method method : type.getDeclaredMethods()) {
            check.due(method + " has parameters to seven", method.getParameterCount() <= MOST_PARAMETERS ? 1 : 0, 1);
        }
    }

    /** Rule 7: no call throws, for any numbers, as things stand at first and as they stand later. */
    private static void neverThrows() throws Exception {
        check.part("any numbers");
        BannisterCabinet[] cabinets = {new BannisterCabinet(), Check.busy(), Check.palace("s3;m0,0,0;")};
        int answered = 0;
        int asked = 0;
        for (Method method : BannisterCabinet.class.getDeclaredMethods()) {
            if (!Modifier.isPublic(method.getModifiers())) {
                continue;
            }
            int ways = (int) Math.pow(ANY.length, method.getParameterCount());
            for (int way = 0; way < ways; way++) {
                asked++;
                for (BannisterCabinet cabinet : cabinets) {
                    method.invoke(cabinet, numbers(way, method.getParameterCount()));
                }
                answered++;
            }
        }
        check.due("calls that came back", answered, asked);
    }

    /** One way to put some of any numbers behind one another. */
    private static Object[] numbers(int way, int many) {
        Object[] numbers = new Object[many];
        int left = way;
        for (int i = 0; i < many; i++) {
            numbers[i] = ANY[left % ANY.length];
            left /= ANY.length;
        }
        return numbers;
    }

    private static void source(String source) {
        check.part("source");
        String withoutRemarks = source.replaceAll("(?s)/\\*.*?\\*/", "").replaceAll("//[^\n]*", "");
        String code = withoutRemarks.replaceAll("\"[^\"\n]*\"", "\"\"");
        for (String forbidden : FORBIDDEN) {
            Matcher matcher = Pattern.compile(forbidden, Pattern.MULTILINE).matcher(code);
            check.due(forbidden, matcher.find() ? 1 : 0, 0);
        }
        check.due("texts joined by +", Pattern.compile("\"\\s*\\+|\\+\\s*\"").matcher(code).find() ? 1 : 0, 0);
        lengths(source);
    }

    /** No method is longer than some sixty lines: it ends where a } stands just below its first letter. */
    private static void lengths(String source) {
        String block = "^( +)[^\\s/*}].*\\) \\{\\n(?s:.*?)^\\1\\}";
        Matcher method = Pattern.compile(block, Pattern.MULTILINE).matcher(source);
        while (method.find()) {
            String[] lines = method.group().split("\n");
            check.due("lines of " + lines[0].trim() + " above sixty", Math.max(0, lines.length - MOST_LINES), 0);
        }
    }
}
