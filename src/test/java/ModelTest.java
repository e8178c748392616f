import java.lang.reflect.Method;
import java.util.Arrays;
import java.util.Comparator;
import java.util.Random;

/** Promises 1 to 29: the program and the Model answer the same calls, drawn from fixed seeds, alike. */
public final class ModelTest {
    private static final int RUNS = 1500, CALLS = 512;
    private static final int[] ODD = {-1, 41, 99, 1000, 10000, 65536, Integer.MAX_VALUE, Integer.MIN_VALUE};

    private static final Check check = new Check();
    private static final Method[] calls = callsOfTheFace();

    public static void main(String[] args) throws Exception {
        for (int seed = 0; seed < RUNS; seed++) {
            run(seed);
        }
        check.end();
    }

    private static Method[] callsOfTheFace() {
        Method[] methods = BannisterCabinet.class.getDeclaredMethods();
        return Arrays.stream(methods)
            .filter(method -> java.lang.reflect.Modifier.isPublic(method.getModifiers()))
            .sorted(Comparator.comparing(Method::getName))
            .toArray(Method[]::new);
    }

    private static void run(int seed) throws Exception {
        check.part("seed " + seed);
        Random random = new Random(seed);
        BannisterCabinet cabinet = new BannisterCabinet();
        Model model = new Model();
        int left = CALLS;
        while (left > 210) {
            if (random.nextInt(150) == 0) {
                left -= layText(random, cabinet, model);
            }
            left--;
            Method method = calls[random.nextInt(calls.length)];
            if (method.getName().equals("write") && random.nextInt(4) > 0) {
                continue;
            }
            both(cabinet, model, method, arguments(random, method));
        }
    }

    private static int layText(Random random, BannisterCabinet cabinet, Model model) throws Exception {
        String text = text(random);
        both(cabinet, model, named("wipe"), new int[0]);
        for (int i = 0; i < text.length(); i++) {
            both(cabinet, model, named("write"), new int[] {text.charAt(i)});
        }
        both(cabinet, model, named("fault"), new int[0]);
        both(cabinet, model, named("lay"), new int[0]);
        return text.length() + 3;
    }

    private static Method named(String name) {
        return Arrays.stream(calls).filter(method -> method.getName().equals(name)).findFirst().orElseThrow();
    }

    private static void both(BannisterCabinet cabinet, Model model, Method method, int[] numbers) throws Exception {
        Object[] arguments = Arrays.stream(numbers).boxed().toArray();
        int got = (Integer) method.invoke(cabinet, arguments);
        check.due(method.getName() + Arrays.toString(numbers), got, model.call(method.getName(), numbers));
    }

    private static int[] arguments(Random random, Method method) {
        int[] numbers = new int[method.getParameterCount()];
        for (int i = 0; i < numbers.length; i++) {
            numbers[i] = random.nextInt(60) == 0 ? ODD[random.nextInt(ODD.length)] : usual(random, method.getName(), i);
        }
        return numbers;
    }

    /** A number that mostly is told, at times one that just is not. */
    private static int usual(Random random, String name, int i) {
        String key = name + i;
        switch (key) {
            case "write0": return 30 + random.nextInt(98);
            case "pass0": return random.nextInt(8) == 0 ? random.nextInt(42) : 1 + random.nextInt(3);
            case "behind0": return random.nextInt(42);
            case "century0": return random.nextInt(10001);
            case "century1": return random.nextInt(62);
            case "count0": return random.nextInt(10);
            case "minister1": case "likely1": return random.nextInt(7);
            case "plot1": case "hold0": return random.nextInt(11);
            case "likely2": return random.nextInt(12);
            case "step0": case "wax0": case "sand0": case "waxes0": case "seen1": return random.nextInt(12);
            case "step1": return random.nextInt(5);
            case "behind2": return random.nextInt(4);
            case "plot2": case "hold1": case "cabinet0": case "likely3": case "century2": return random.nextInt(20) / 9;
            default: return random.nextInt(5);
        }
    }

    /** A TEXT that mostly has no FAULT. */
    private static String text(Random random) {
        int steps = 3 + random.nextInt(14);
        int ministers = 1 + random.nextInt(7);
        // at times all are low, so that what STEP 0 does counts
        int highest = random.nextInt(4) == 0 ? 2 : steps;
        StringBuilder text = new StringBuilder();
        if (steps != 10 || random.nextBoolean()) {
            text.append('s').append(steps).append(';');
        }
        int items = random.nextInt(12);
        for (int i = 0; i < items; i++) {
            item(random, text, random.nextInt(3) == 0 ? highest : steps);
        }
        for (int i = 0; i < ministers; i++) {
            text.append('m').append(random.nextInt(4)).append(',').append(random.nextInt(highest)).append(',')
                .append(random.nextInt(10)).append(';');
        }
        if (random.nextInt(6) == 0) {
            int at = random.nextInt(text.length());
            text.setCharAt(at, "s;,w0mx1tk9f".charAt(random.nextInt(12)));
        }
        return text.toString();
    }

    private static void item(Random random, StringBuilder text, int steps) {
        int x = random.nextInt(steps);
        switch (random.nextInt(10)) {
            case 0: text.append('k').append(x).append(';'); break;
            case 1: text.append('t').append(x).append(';'); break;
            case 2: text.append('f').append(random.nextInt(100)).append(';'); break;
            default: text.append('w').append(x).append(',').append(random.nextInt(10)).append(';');
        }
    }
}
