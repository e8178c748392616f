import java.lang.reflect.Method;
import java.lang.reflect.Modifier;
import java.nio.file.Files;
import java.nio.file.Path;
import java.util.Arrays;
import java.util.regex.Matcher;
import java.util.regex.Pattern;

/** README.md: its example answers what the remarks say, and its table tells of each call with its numbers. */
public final class ReadmeTest {
    private static final Pattern TEXT = Pattern.compile("String text = \"([^\"]*)\";");
    private static final Pattern CALL =
        Pattern.compile("^palace\\.(\\w+)\\(([-\\d, ]*)\\);(?: *// (-?\\d+):)?", Pattern.MULTILINE);
    private static final Pattern ROW = Pattern.compile("^\\| `(\\w+)\\(([\\w, ]*)\\)` \\|", Pattern.MULTILINE);

    private static final Check check = new Check();

    public static void main(String[] args) throws Exception {
        String readme = Files.readString(Path.of("README.md"));
        example(readme);
        table(readme);
        check.end();
    }

    private static void example(String readme) throws Exception {
        check.part("example");
        Matcher text = TEXT.matcher(readme);
        check.due("texts", text.find() ? 1 : 0, 1);
        BannisterCabinet palace = Check.written(text.group(1));
        Matcher call = CALL.matcher(readme);
        int calls = 0;
        for (; call.find(); calls++) {
            check.due(call.group() + " has a remark", call.group(3) == null ? 0 : 1, 1);
            int[] numbers = numbers(call.group(2));
            Object[] arguments = Arrays.stream(numbers).boxed().toArray();
            int got = (Integer) called(call.group(1), numbers.length).invoke(palace, arguments);
            check.due(call.group(), got, Integer.parseInt(call.group(3)));
        }
        check.due("calls, some of them", calls > 0 ? 1 : 0, 1);
    }

    private static int[] numbers(String list) {
        if (list.isBlank()) {
            return new int[0];
        }
        return Arrays.stream(list.split(",")).map(String::trim).mapToInt(Integer::parseInt).toArray();
    }

    private static Method called(String name, int numbers) throws NoSuchMethodException {
        Class<?>[] types = new Class<?>[numbers];
        Arrays.fill(types, int.class);
        return BannisterCabinet.class.getMethod(name, types);
    }

    private static void table(String readme) throws Exception {
        check.part("table");
        int rows = 0;
        for (Matcher row = ROW.matcher(readme); row.find(); rows++) {
            int numbers = row.group(2).isEmpty() ? 0 : row.group(2).split(",").length;
            Class<?> answer = called(row.group(1), numbers).getReturnType();
            check.due(row.group(1) + " answers an int", answer == int.class ? 1 : 0, 1);
        }
        Method[] methods = BannisterCabinet.class.getDeclaredMethods();
        long open = Arrays.stream(methods).filter(method -> Modifier.isPublic(method.getModifiers())).count();
        check.due("rows", rows, (int) open);
    }
}
