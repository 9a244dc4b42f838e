import java.lang.reflect.InvocationTargetException;
import java.lang.reflect.Method;
import java.util.ArrayList;
import java.util.Arrays;
import java.util.Comparator;
import java.util.List;
import java.util.Map;
import java.util.Random;
import java.util.TreeMap;

/** Runs of 512 random calls, always the same ones, on the class and on the literal model. */
public final class RandomRunsTest {
    private static final int CALLS = 512;

    // Twice "branch 99" with a space, and the insert: what an object answers after its 512th call is free.
    private static final int MOST_TO_BUILD = 20;
    private static final String[] NAMES = {"code", "data", "label", "align", "jump", "branch", "load", "pool"};

    // How often the kinds come in the programs of a run: mixed, few transfers, many transfers, loads.
    private static final int[][] MIXES = {
        {3, 3, 4, 2, 3, 3, 4, 2},
        {3, 8, 4, 2, 1, 1, 1, 1},
        {2, 4, 6, 2, 9, 9, 1, 1},
        {3, 4, 1, 2, 1, 1, 9, 2},
    };

    private final Random random;
    private final int[] mix;
    private final BranchRelaxer object = new BranchRelaxer();
    private final Model model = new Model();
    private final List<String> log = new ArrayList<>();
    private static final Map<String, Integer> OUTCOMES = new TreeMap<>();
    private static final List<Method> METHODS = methods();

    private RandomRunsTest(int seed) {
        random = new Random(seed);
        mix = MIXES[seed % MIXES.length];
    }

    private static List<Method> methods() {
        List<Method> all = new ArrayList<>();
        for (Method m : BranchRelaxer.class.getDeclaredMethods()) {
            if (java.lang.reflect.Modifier.isPublic(m.getModifiers())) {
                all.add(m);
            }
        }
        all.sort(Comparator.comparing(Method::getName));
        return all;
    }

    public static void main(String[] args) throws Exception {
        int runs = args.length > 0 ? Integer.parseInt(args[0]) : 120;
        for (int seed = 0; seed < runs; seed++) {
            RandomRunsTest run = new RandomRunsTest(seed);
            if (!run.agrees()) {
                System.out.println("seed " + seed + ", the last calls:");
                run.log.subList(Math.max(0, run.log.size() - 60), run.log.size()).forEach(System.out::println);
                break;
            }
        }
        everyOutcomeCame();
        if (args.length > 1) {
            OUTCOMES.forEach((k, v) -> System.out.println(k + " " + v));
        }
        Expect.end();
    }

    /** Every method must have answered, and thrown each exception that it declares. */
    private static void everyOutcomeCame() {
        for (Method m : METHODS) {
            Expect.due(m.getName() + " answered", true, OUTCOMES.containsKey(m.getName()));
            for (Class<?> e : m.getExceptionTypes()) {
                String key = m.getName() + " throws." + e.getSimpleName();
                Expect.due(key + " came", true, OUTCOMES.containsKey(key));
            }
        }
    }

    /** Half of the runs begin with a long program, in which few labels are not defined. */
    private int begin() throws Exception {
        int calls = 0;
        int wanted = random.nextInt(2) == 0 ? 0 : 4 + random.nextInt(37);
        for (int i = 0; i < wanted; i++) {
            int kind = i < 4 ? 2 : kind();
            String text = kind == 2 && i < 4 ? "label " + i : NAMES[kind] + (kind == 7 ? "" : " " + operand(kind));
            for (char c : text.toCharArray()) {
                same("append", c);
            }
            same("insert", random.nextInt(model.itemCount() + 1));
            calls += text.length() + 1;
        }
        return calls;
    }

    private boolean agrees() throws Exception {
        int calls = begin();
        while (calls < CALLS) {
            boolean build = random.nextInt(100) < (model.itemCount() < 12 ? 45 : 15);
            if (build && calls + MOST_TO_BUILD <= CALLS) {
                String text = text();
                for (char c : text.toCharArray()) {
                    if (!same("append", c)) {
                        return false;
                    }
                }
                int position = random.nextInt(12) == 0 ? around(model.itemCount()) : random.nextInt(model.itemCount() + 1);
                if (!same("insert", position)) {
                    return false;
                }
                calls += text.length() + 1;
            } else {
                Method m = METHODS.get(random.nextInt(METHODS.size()));
                boolean rare = m.getName().equals("reset") || m.getName().equals("restore") || m.getName().equals("remove");
                if (!(rare && random.nextInt(4) > 0)) {
                    if (!same(m.getName(), arguments(m))) {
                        return false;
                    }
                    calls++;
                }
            }
        }
        return true;
    }

    private Object[] arguments(Method m) {
        Class<?>[] types = m.getParameterTypes();
        Object[] all = new Object[types.length];
        for (int i = 0; i < types.length; i++) {
            if (types[i] == char.class) {
                all[i] = (char) (random.nextInt(3) == 0 ? random.nextInt(300) : 32 + random.nextInt(95));
            } else {
                all[i] = number(m.getName(), i);
            }
        }
        return all;
    }

    private int number(String method, int parameter) {
        if (random.nextInt(60) == 0) {
            int[] far = {Integer.MIN_VALUE, Integer.MAX_VALUE, -1, 40, 41, 100, 2048, -2048};
            return far[random.nextInt(far.length)];
        }
        if (method.equals("labelAddress")) {
            return around(9);
        }
        if (method.equals("itemAt")) {
            return around(model.totalSize());
        }
        if (method.startsWith("literal") && parameter == 0) {
            return around(model.poolCount());
        }
        if (method.equals("literal") || method.equals("literalAddress")) {
            return around(3);
        }
        if (method.equals("formCount") || parameter == 1 && (method.equals("setForm") || method.equals("addressIf"))) {
            return around(2);
        }
        if (parameter == 1 && !method.equals("move")) {
            return around(5);
        }
        return ofKind(method);
    }

    /** Mostly an item of the kind that the method asks for. */
    private int ofKind(String method) {
        boolean load = method.equals("poolOf") || method.equals("distance") || method.equals("slack");
        boolean transfer = List.of("setForm", "displacement", "fits", "neededForm").contains(method);
        int item = around(model.itemCount());
        for (int tries = 0; tries < 20 && (load || transfer); tries++) {
            if (item >= 0 && item < model.itemCount()) {
                int kind = model.item(item, 0);
                if (load && kind == 6 || transfer && (kind == 4 || kind == 5)) {
                    return item;
                }
            }
            item = around(model.itemCount());
        }
        return item;
    }

    private int around(int most) {
        return random.nextInt(most + 3) - 1;
    }

    private String text() {
        int kind = kind();
        String text = NAMES[kind] + (kind == 7 ? "" : " " + operand(kind));
        if (random.nextInt(12) > 0) {
            return text;
        }
        StringBuilder changed = new StringBuilder(text);
        int at = random.nextInt(text.length());
        switch (random.nextInt(6)) {
            case 0 -> changed.setLength(at);
            case 1 -> changed.deleteCharAt(at);
            case 2 -> changed.insert(at, (char) (32 + random.nextInt(95)));
            case 3 -> changed.setCharAt(at, text.charAt(random.nextInt(text.length())));
            case 4 -> changed.append(random.nextInt(200));
            default -> changed.append(' ').append(text);
        }
        return changed.toString();
    }

    private int kind() {
        int rest = random.nextInt(Arrays.stream(mix).sum());
        int kind = 0;
        while (rest >= mix[kind]) {
            rest -= mix[kind];
            kind++;
        }
        return kind;
    }

    private String operand(int kind) {
        if (random.nextInt(40) == 0) {
            return String.valueOf(random.nextInt(100));
        }
        int number = switch (kind) {
            case 0 -> 1 + random.nextInt(9);
            case 1 -> 1 + random.nextInt(50);
            case 3 -> 1 + random.nextInt(4);
            case 6 -> random.nextInt(6) * 19;
            default -> random.nextInt(4);
        };
        return random.nextInt(10) == 0 && number < 10 ? "0" + number : String.valueOf(number);
    }

    private boolean same(String name, Object... arguments) throws Exception {
        Method m = METHODS.stream().filter(x -> x.getName().equals(name)).findFirst().orElseThrow();
        String want = outcome(Model.class.getMethod(name, m.getParameterTypes()), model, arguments);
        String got = outcome(m, object, arguments);
        log.add(name + Arrays.toString(arguments) + " " + got);
        OUTCOMES.merge(got.startsWith("throws.") ? name + " " + got : name, 1, Integer::sum);
        Expect.due(name + Arrays.toString(arguments), want, got);
        return want.equals(got);
    }

    private static String outcome(Method m, Object target, Object[] arguments) throws Exception {
        try {
            return String.valueOf(m.invoke(target, arguments));
        } catch (InvocationTargetException e) {
            return "throws." + e.getCause().getClass().getSimpleName();
        }
    }
}
