import java.lang.reflect.InvocationTargetException;
import java.lang.reflect.Method;
import java.lang.reflect.Modifier;
import java.util.ArrayList;
import java.util.Arrays;
import java.util.LinkedHashMap;
import java.util.List;
import java.util.Map;
import java.util.Random;
import java.util.TreeMap;

/**
 * Random runs of 512 calls, each call made of the class and of the model: the answers have to be
 * the same, or the exceptions, and an exception has to be one that the class threw by itself.
 * Arguments: how many runs, the first seed.
 */
public final class RandomTest {
    private static final int CALLS = 512;
    private static final Map<String, Method> REAL = new LinkedHashMap<>();
    private static final Map<String, Method> MODEL = new LinkedHashMap<>();
    private static final Map<String, Integer> SEEN = new TreeMap<>();

    private final Random random;
    private final List<String> story = new ArrayList<>();
    private final GristGraph real = new GristGraph();
    private final Model model = new Model();
    private final Map<String, Integer> weights = new LinkedHashMap<>();
    private final int firstNodes;
    private final int firstEdges;
    private final int valueSpan;
    private final int kindSpan;
    private final int wrong;

    private RandomTest(long seed) {
        random = new Random(seed);
        valueSpan = 1 + random.nextInt(5);
        firstNodes = 2 + random.nextInt(9);
        firstEdges = random.nextInt(36);
        kindSpan = 1 + random.nextInt(4);
        wrong = random.nextInt(4) == 0 ? 5 : 60;
        for (String name : REAL.keySet()) {
            weights.put(name, List.of(1, 3, 10).get(random.nextInt(3)));
        }
        // The store is soon at its bounds: what is dropped or begun is not had again.
        weights.put("dropNode", random.nextInt(2));
        weights.put("dropEdge", random.nextInt(4));
        weights.put("node", 1);
        weights.put("edge", 2);
        weights.put("wipe", 1 + random.nextInt(4));
        weights.put("view", random.nextInt(2));
        weights.put("through", random.nextInt(4));
        weights.put("begin", 2 + random.nextInt(6));
        weights.put("commit", 2 + random.nextInt(4));
        weights.put("abort", random.nextInt(2));
        weights.put("use", 1 + random.nextInt(10));
        weights.put("density", 1);
        weights.put("meanWeight", 1);
        weights.put("isSound", 1);
        weights.put("nodes", 1);
        weights.put("edges", 1);
        weights.put("degrees", random.nextInt(2));
        weights.put("rule", random.nextInt(2));
        weights.put("flow", 1);
        if (random.nextInt(3) == 0) {
            weights.replaceAll((name, weight) -> 1);
            weights.putAll(Map.of("matches", 12, "set", 8, "use", 14, "begin", 8, "commit", 8,
                    "step", 5, "edge", 6, "dropEdge", 2, "news", 3, "changes", 3));
        } else if (random.nextInt(3) == 0) {
            weights.replaceAll((name, weight) -> 1);
            weights.putAll(Map.of("open", 3, "goOn", 20, "foundAt", 8, "step", 8, "wipe", 2,
                    "set", 4, "shortest", 6, "allShortest", 6, "matchAt", 12, "matches", 6));
        }
    }

    public static void main(String[] args) {
        int runs = args.length > 0 ? Integer.parseInt(args[0]) : 250;
        long first = args.length > 1 ? Long.parseLong(args[1]) : 1;
        for (Method method : GristGraph.class.getDeclaredMethods()) {
            if (Modifier.isPublic(method.getModifiers())) {
                REAL.put(method.getName(), method);
            }
        }
        List<String> names = new ArrayList<>(REAL.keySet());
        names.sort(null);
        Map<String, Method> sorted = new LinkedHashMap<>();
        names.forEach(name -> sorted.put(name, REAL.get(name)));
        REAL.clear();
        REAL.putAll(sorted);
        for (Method method : Model.class.getDeclaredMethods()) {
            if (!Modifier.isPrivate(method.getModifiers()) && REAL.containsKey(method.getName())) {
                MODEL.put(method.getName(), method);
            }
        }
        for (int i = 0; i < runs; i++) {
            String fault = new RandomTest(first + i).run();
            if (fault != null) {
                System.out.println("seed " + (first + i) + ": " + fault);
                System.exit(1);
            }
        }
        if (args.length > 2) {
            SEEN.forEach((what, count) -> System.out.println(count + " " + what));
        }
        System.out.println(runs + " runs are as in the model");
    }

    private String run() {
        for (int call = 0; call < CALLS; call++) {
            String name = call < firstNodes ? "node"
                    : call < firstNodes + firstEdges ? "edge" : pickName();
            Object[] values = arguments(name);
            String got = answer(real, REAL.get(name), values);
            String due = answer(model, MODEL.get(name), values);
            story.add(name + Arrays.toString(values) + " -> " + got);
            if (!got.equals(due)) {
                story.forEach(System.out::println);
                return "due was " + due;
            }
            boolean isWord = got.startsWith("throws.") || REAL.get(name).getReturnType() == char.class;
            SEEN.merge(name + " " + (isWord ? got : got.equals("0") ? "0" : "number"), 1,
                    Integer::sum);
        }
        return null;
    }

    private String pickName() {
        int sum = weights.values().stream().mapToInt(Integer::intValue).sum();
        int left = random.nextInt(sum);
        for (Map.Entry<String, Integer> entry : weights.entrySet()) {
            left -= entry.getValue();
            if (left < 0) {
                return entry.getKey();
            }
        }
        throw new AssertionError();
    }

    private static String answer(Object object, Method method, Object[] values) {
        try {
            return String.valueOf(method.invoke(object, values));
        } catch (InvocationTargetException e) {
            Throwable thrown = e.getCause();
            if (object instanceof GristGraph && !isOwn(thrown, method)) {
                thrown.printStackTrace(System.out);
                return "throws by the machine: " + thrown;
            }
            return "throws." + thrown.getClass().getSimpleName();
        } catch (IllegalAccessException e) {
            throw new AssertionError(e);
        }
    }

    private static boolean isOwn(Throwable thrown, Method method) {
        StackTraceElement[] trace = thrown.getStackTrace();
        boolean isFromClass = trace.length == 0 || trace[0].getClassName().startsWith("GristGraph");
        return isFromClass && !"/ by zero".equals(thrown.getMessage())
                && Arrays.asList(method.getExceptionTypes()).contains(thrown.getClass());
    }

    private boolean isWrong() {
        return random.nextInt(wrong) == 0;
    }

    private int in(int least, int most) {
        if (isWrong()) {
            int[] odd = {least - 1, most + 1, least, most, Integer.MIN_VALUE, Integer.MAX_VALUE};
            return odd[random.nextInt(odd.length)];
        }
        return least + random.nextInt(most - least + 1);
    }

    private int one(List<Integer> there, int least, int most) {
        return isWrong() || there.isEmpty() ? in(least, most)
                : there.get(random.nextInt(there.size()));
    }

    private int aNode() {
        return one(model.nodesThere(), 0, 13);
    }

    private int anEdge() {
        return one(model.edgesThere(), 0, 39);
    }

    private int aKept(int count) {
        return isWrong() || count == 0 ? in(0, 3) : random.nextInt(count);
    }

    private int aKind() {
        return isWrong() ? in(0, 3) : random.nextInt(kindSpan);
    }

    private int anyOr(int number) {
        return random.nextInt(2) == 0 ? -1 : number;
    }

    private int aValue() {
        return isWrong() ? in(-999, 999) : random.nextInt(valueSpan) - valueSpan / 2;
    }

    private char of(String letters) {
        return isWrong() ? (char) random.nextInt(300) : letters.charAt(random.nextInt(letters.length()));
    }

    private int aTransaction() {
        return one(model.transactionsOpen(), 0, 19);
    }

    private Object[] arguments(String name) {
        switch (name) {
            case "node": return new Object[] {aKind(), aValue()};
            case "edge": return new Object[] {aKind(), aNode(), aNode(), in(1, 99)};
            case "dropNode": return new Object[] {aNode()};
            case "dropEdge": return new Object[] {anEdge()};
            case "set": return new Object[] {aNode(), aValue()};
            case "ofNode": return new Object[] {aNode(), of("kvoi")};
            case "ofEdge": return new Object[] {anEdge(), of("kftw")};
            case "view": return new Object[] {in(0, 15) | (isWrong() ? 0 : 1), in(0, 15)};
            case "through": return new Object[] {random.nextInt(3) == 0 ? in(0, 3) : -1};
            case "step": return aStep();
            case "matches":
            case "shortest":
            case "allShortest": return new Object[] {of("en"), aNode(), anyOr(aNode())};
            case "matchAt": return new Object[] {of("en"), aNode(), in(0, 3), in(0, 2)};
            case "open":
            case "watch": return new Object[] {of("en"), aNode()};
            case "goOn": return new Object[] {aKept(model.walksKept()),
                    random.nextInt(2) == 0 ? in(1, 200) : in(1, 4)};
            case "found":
            case "steps": return new Object[] {aKept(model.walksKept())};
            case "pairs": return new Object[] {aKept(model.closuresKept())};
            case "foundAt": return new Object[] {aKept(model.walksKept()), in(0, 2)};
            case "closure": return new Object[] {aKind()};
            case "reaches": return new Object[] {aKept(model.closuresKept()), aNode(), aNode()};
            case "changes": return new Object[] {aKept(model.closuresKept()),
                    random.nextBoolean()};
            case "news": return new Object[] {aKept(model.watchesKept()),
                    random.nextBoolean()};
            case "degrees": return new Object[] {random.nextBoolean(), aKind(), aKind(),
                    random.nextInt(8) == 0 ? in(0, 9) : 0, in(0, 9)};
            case "rule": return new Object[] {of("ua"), aKind()};
            case "use": return new Object[] {random.nextInt(3) == 0 ? -1 : aTransaction()};
            case "commit":
            case "abort": return new Object[] {aTransaction()};
            case "cost":
            case "flow": return new Object[] {aNode(), aNode()};
            default: return new Object[0];
        }
    }

    private Object[] aStep() {
        int least = random.nextInt(4) == 0 ? in(0, 4) : random.nextInt(2);
        int most = isWrong() ? in(0, 4) : Math.max(0, least) + random.nextInt(3);
        return new Object[] {anyOr(aKind()), of("fb"), least, most,
                random.nextInt(3) == 0 ? aKind() : -1,
                random.nextInt(3) == 0 ? aValue() : -999};
    }
}
