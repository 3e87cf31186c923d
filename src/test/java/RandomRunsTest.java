import java.lang.reflect.InvocationTargetException;
import java.lang.reflect.Method;
import java.util.HashMap;
import java.util.Map;
import java.util.Random;

/** Promises 1 to 40: runs of 512 calls, chosen by a fixed seed, each answered as the model answers it. */
public final class RandomRunsTest {
    private static final int RUNS = 1500;
    private static final int CALLS = 512;

    // How often a call comes, its name, and what its arguments are.
    private static final String[] FACE = {
        "6 addPart kind cents grams", "3 setPrice part cents", "2 setGrams part grams", "4 setKind part kind",
        "1 parts", "1 kind part",
        "24 addLine part position child quantity serial last",
        "16 addVariant part position child quantity option choices",
        "8 replaceFrom line serial part quantity", "3 endBefore line serial", "4 setScrap line percent", "1 lines",
        "2 lastSerial line", "3 holds line serial", "4 setChoice option choice", "1 choice option",
        "3 listSize part serial", "3 listPart part serial index", "3 listQuantity part serial index",
        "3 writeList part serial", "5 charAt place", "3 quantity part part serial",
        "3 quantityByWalking part part serial", "3 whereUsed part serial", "3 levels part serial",
        "3 cost part serial", "3 costByWalking part serial", "2 costBits part serial", "2 costCents part serial",
        "3 dearest part serial", "2 weight part serial", "2 weightBits part serial", "1 markCosts serial",
        "2 costChange part serial", "2 order part serial units", "1 cancel order", "2 orderCost order", "3 need part",
        "1 isConsistent",
    };

    private static final int[] ODD = {
        -1, 0, 1, 4, 5, 6, 7, 8, 15, 16, 20, 21, 40, 50, 51, 999, 1000, 99999, 100000,
        Integer.MIN_VALUE, Integer.MAX_VALUE,
    };

    private final Random random;
    private final BillOfMaterials program = new BillOfMaterials();
    private final Model model = new Model();
    private final int typicalParts;
    private final StringBuilder history = new StringBuilder();

    private RandomRunsTest(int seed) {
        random = new Random(seed);
        typicalParts = 3 + random.nextInt(14);
    }

    public static void main(String[] args) throws Exception {
        Map<String, Integer> refused = new HashMap<>();
        for (int seed = 0; seed < RUNS; seed++) {
            if (!new RandomRunsTest(seed).run(refused)) {
                System.exit(1);
            }
        }
        System.out.println("RandomRunsTest: " + RUNS + " runs as due");
        if (args.length > 0) {
            refused.forEach((what, times) -> System.out.println(times + " " + what));
        }
    }

    private boolean run(Map<String, Integer> answers) throws Exception {
        int beginning = random.nextInt(typicalParts + 1);
        for (int i = 0; i < CALLS; i++) {
            String[] call = (i < beginning ? FACE[0] : nextCall()).split(" ");
            Object[] arguments = new Object[call.length - 2];
            for (int k = 0; k < arguments.length; k++) {
                arguments[k] = argument(call[k + 2], arguments, k);
            }
            Object want = answer(model, call[1], arguments);
            Object got = answer(program, call[1], arguments);
            history.append(call[1]).append(java.util.Arrays.toString(arguments)).append(" -> ").append(got)
                    .append('\n');
            answers.merge(call[1] + (got instanceof Class ? " " + got : " answers"), 1, Integer::sum);
            if (!want.equals(got)) {
                System.out.println(history + "due was " + want);
                return false;
            }
        }
        return true;
    }

    private String nextCall() {
        int sum = 0;
        for (String call : FACE) {
            sum += Integer.parseInt(call.split(" ")[0]);
        }
        int chosen = random.nextInt(sum);
        for (String call : FACE) {
            chosen -= Integer.parseInt(call.split(" ")[0]);
            if (chosen < 0) {
                return call;
            }
        }
        throw new AssertionError();
    }

    private Object argument(String what, Object[] before, int count) {
        if (what.equals("kind")) {
            return "bmpbmpbmpbmppppx".charAt(random.nextInt(16));
        }
        if (random.nextInt(60) == 0) {
            return ODD[random.nextInt(ODD.length)];
        }
        return switch (what) {
            case "cents", "grams" -> random.nextInt(4) == 0 ? random.nextInt(3) : random.nextInt(100000);
            case "part" -> Math.min(random.nextInt(usedParts()), random.nextInt(usedParts()));
            case "child" -> child((int) before[0]);
            case "position" -> 1 + random.nextInt(6);
            case "quantity" -> 1 + random.nextInt(20);
            case "serial" -> random.nextInt(3) == 0 ? 1 + random.nextInt(999) : 1 + 90 * random.nextInt(11);
            case "last" -> Math.min(999, (int) before[count - 1] + random.nextInt(random.nextBoolean() ? 100 : 999));
            case "option", "choice" -> random.nextInt(4);
            case "choices" -> 1 + random.nextInt(15);
            case "line" -> random.nextInt(Math.max(1, model.lines()));
            case "percent" -> random.nextInt(51);
            case "index" -> random.nextInt(random.nextBoolean() ? 2 : 8);
            case "place" -> random.nextInt(random.nextBoolean() ? 4 : 60);
            case "units" -> 1 + random.nextInt(999);
            case "order" -> random.nextInt(8);
            default -> throw new AssertionError(what);
        };
    }

    private int usedParts() {
        return Math.max(1, Math.min(typicalParts, model.parts()));
    }

    /** Mostly a greater number than the parent's, for else most lines would be circles. */
    private int child(int parent) {
        if (parent >= 0 && parent < usedParts() - 1 && random.nextInt(6) > 0) {
            return parent + 1 + random.nextInt(usedParts() - 1 - parent);
        }
        return random.nextInt(usedParts());
    }

    private static Object answer(Object object, String name, Object[] arguments) throws Exception {
        Method method = METHODS.computeIfAbsent(object.getClass().getName() + name, key -> find(object, name));
        try {
            return method.invoke(object, arguments);
        } catch (InvocationTargetException e) {
            return e.getCause().getClass();
        }
    }

    private static final Map<String, Method> METHODS = new HashMap<>();

    private static Method find(Object object, String name) {
        for (Method method : object.getClass().getMethods()) {
            if (method.getName().equals(name)) {
                return method;
            }
        }
        throw new AssertionError(name);
    }
}
