import java.lang.reflect.InvocationTargetException;
import java.lang.reflect.Method;
import java.util.ArrayList;
import java.util.HashMap;
import java.util.List;
import java.util.Map;
import java.util.Random;
import java.util.TreeMap;

/** Runs of up to 512 calls, the same ones each time, on FetchHouse and on the model: every answer is the same. */
public final class RandomRunsTest {
    private static final int RUNS = 6000;
    private static final int MOST_CALLS = 512;
    private static final String[] NAMES = {
        "make", "setRef", "ref", "fileAt", "fetch", "wouldFetch", "rounds", "load", "missing", "protect", "move",
        "push", "collect", "commits", "has", "hasFile", "isShallow", "isAncestor"};

    private static final Map<String, Method> OF_CLASS = methodsOf(FetchHouse.class);
    private static final Map<String, Method> OF_MODEL = methodsOf(Model.class);
    private static final Map<String, Integer> SEEN = new TreeMap<>();

    private final Random random;
    private final FetchHouse house = new FetchHouse();
    private final Model model = new Model();
    private final List<String> told = new ArrayList<>();
    private final int[] weights = new int[NAMES.length];
    private final int files;
    private final int wrongPercent;

    private RandomRunsTest(int seed) {
        random = new Random(seed);
        for (int i = 0; i < weights.length; i++) {
            weights[i] = 1 + random.nextInt(6);
        }
        weights[0] *= 2;
        weights[10] *= 2;
        weights[11] *= 2;
        weights[12] = random.nextInt(3);
        files = random.nextBoolean() ? 100 : 8;
        wrongPercent = random.nextInt(8);
    }

    public static void main(String[] args) {
        for (int seed = 0; seed < RUNS; seed++) {
            if (!new RandomRunsTest(seed).sameAnswers(seed)) {
                System.exit(1);
            }
        }
        System.out.println(RUNS + " runs are as the model has them: " + SEEN);
        for (String refusal : new String[] {"push -2", "push -3", "push -4", "push 0", "push more"}) {
            if (SEEN.getOrDefault(refusal, 0) < RUNS / 10) {
                System.out.println("too few runs reached " + refusal);
                System.exit(1);
            }
        }
    }

    private boolean sameAnswers(int seed) {
        for (int call = 0; call < MOST_CALLS; call++) {
            String name = nextName();
            Object[] arguments = argumentsFor(name);
            Object want = answer(OF_MODEL.get(name), model, arguments);
            Object got = answer(OF_CLASS.get(name), house, arguments);
            told.add(name + List.of(arguments) + " -> " + got);
            if (!got.equals(want)) {
                System.out.println("run " + seed + ", due is " + want + ":\n" + String.join("\n", told));
                return false;
            }
            countSeen(name, got);
        }
        return true;
    }

    private static void countSeen(String name, Object got) {
        boolean more = got instanceof Integer number && number > 0;
        String key = name.equals("push") ? "push " + (more ? "more" : got)
                : got instanceof Class<?> type ? name + " " + type.getSimpleName() : name;
        SEEN.merge(key, 1, Integer::sum);
    }

    private String nextName() {
        int sum = 0;
        for (int weight : weights) {
            sum += weight;
        }
        int left = random.nextInt(sum);
        int name = 0;
        while (left >= weights[name]) {
            left -= weights[name];
            name++;
        }
        return NAMES[name];
    }

    private Object[] argumentsFor(String name) {
        switch (name) {
            case "make": {
                int store = store();
                int first = random.nextInt(6) == 0 ? -1 : heldCommit(store);
                int second = random.nextInt(3) != 0 ? -1 : heldCommit(store);
                return new Object[] {store, first, second, wrongOr(random.nextInt(4)), fileOrNone()};
            }
            case "setRef": {
                int store = store();
                return new Object[] {store, ref(), random.nextInt(5) == 0 ? -1 : heldCommit(store)};
            }
            case "ref": return new Object[] {store(), ref()};
            case "fileAt": return new Object[] {commit(), wrongOr(random.nextInt(4))};
            case "fetch": return new Object[] {ref(), depth(), random.nextBoolean()};
            case "wouldFetch": return new Object[] {ref(), depth()};
            case "load": case "hasFile": {
                int file = wrongOr(random.nextInt(files));
                return name.equals("load") ? new Object[] {file} : new Object[] {store(), file};
            }
            case "protect": return new Object[] {ref(), random.nextBoolean()};
            case "move": {
                int ref = ref();
                boolean stale = random.nextInt(8) == 0 || ref < 0 || ref > 3;
                int its = random.nextInt(10) == 0 ? -1 : random.nextInt(4) == 0 ? commit() : heldCommit(1);
                return new Object[] {ref, stale ? commit() : model.ref(0, ref), its};
            }
            case "collect": return new Object[] {store()};
            case "has": return new Object[] {store(), commit()};
            case "isShallow": return new Object[] {commit()};
            case "isAncestor": return new Object[] {store(), commit(), commit()};
            default: return new Object[0];
        }
    }

    private int wrongOr(int right) {
        int[] wrong = {-1, -2, 4, 60, 100, 2, 61, Integer.MIN_VALUE, Integer.MAX_VALUE};
        return random.nextInt(100) < wrongPercent ? wrong[random.nextInt(wrong.length)] : right;
    }

    private int store() {
        return wrongOr(random.nextInt(2));
    }

    private int ref() {
        return wrongOr(random.nextInt(4));
    }

    private int depth() {
        return wrongOr(random.nextInt(3) == 0 ? random.nextInt(61) : random.nextInt(5));
    }

    private int fileOrNone() {
        return random.nextInt(8) == 0 ? -1 : wrongOr(random.nextInt(files));
    }

    private int commit() {
        return wrongOr(random.nextInt(model.commits() + 1) - (random.nextInt(10) == 0 ? 1 : 0));
    }

    /** Late commits more often, so that long lines grow. */
    private int heldCommit(int store) {
        int made = model.commits();
        for (int tries = 0; tries < 8 && made > 0 && (store == 0 || store == 1); tries++) {
            int commit = random.nextBoolean() ? made - 1 - random.nextInt(Math.min(4, made)) : random.nextInt(made);
            if (model.has(store, commit)) {
                return wrongOr(commit);
            }
        }
        return -1;
    }

    private static Object answer(Method method, Object target, Object[] arguments) {
        try {
            return method.invoke(target, arguments);
        } catch (InvocationTargetException thrown) {
            return thrown.getCause().getClass();
        } catch (IllegalAccessException hidden) {
            throw new IllegalStateException(hidden);
        }
    }

    private static Map<String, Method> methodsOf(Class<?> type) {
        Map<String, Method> methods = new HashMap<>();
        for (Method method : type.getDeclaredMethods()) {
            if (java.lang.reflect.Modifier.isPublic(method.getModifiers())) {
                methods.put(method.getName(), method);
            }
        }
        return methods;
    }
}
