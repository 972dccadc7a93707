import java.lang.reflect.InvocationTargetException;
import java.lang.reflect.Method;
import java.lang.reflect.Modifier;
import java.util.ArrayList;
import java.util.Arrays;
import java.util.List;
import java.util.Map;
import java.util.Random;
import java.util.TreeMap;

/**
 * Makes random calls of the whole face, right ones and wrong ones mixed, each row of 512 calls on one
 * object, and compares answers and exceptions with those of the reference. ReferenceTest, which makes
 * right calls alone, can't see a refused call that spoils a later answer.
 */
public final class MixedCallsTest {
    private static final int OBJECTS = 200;
    private static final int CALLS = 512;
    private static final int[] FAR_OFF = {Integer.MIN_VALUE, -65, -8, -2, -1, 1 << 8, 1001, 1 << 16, 1 << 30, Integer.MAX_VALUE};
    private static final String[] CHANGING = {
        "addRule", "addAction", "turn", "rank", "put", "change", "change", "change", "play", "run"};
    /** Calls that leave what was explored, and one that may or may not. */
    private static final String[] ASKING = {
        "isAbove", "ruleCount", "facts", "triggered", "ready", "explore", "factsOf", "triggeredOf", "after", "after",
        "terminates", "endCount", "end", "shortest", "longest", "ways", "isPlayed", "choice", "canTrigger",
        "circular", "commute", "conflictCount", "conflict", "digest", "play"};
    private static final Map<String, Method> FACE = face();

    private final long seed;
    private final Random random;
    private final TriggerAnalyzer real = new TriggerAnalyzer();
    private final GuardedReference plain = new GuardedReference();
    private final StringBuilder log = new StringBuilder();
    private boolean isFull;
    private int calls;
    private static final Map<String, Integer> OUTCOMES = new TreeMap<>();
    private static int wrong;

    private MixedCallsTest(long seed) {
        this.seed = seed;
        this.random = new Random(seed * 0x9E3779B97F4A7C15L + 1);
    }

    public static void main(String[] args) throws ReflectiveOperationException {
        for (int seed = 0; seed < OBJECTS && wrong == 0; seed++) {
            new MixedCallsTest(seed).makeCalls();
        }
        for (Method method : FACE.values()) {
            eachOutcomeWasSeen(method);
        }
        System.out.println(OUTCOMES.size() + " outcomes of " + FACE.size() + " methods seen");
        System.out.println(wrong == 0 ? "the mixed calls agree" : wrong + " faults");
        System.exit(wrong == 0 ? 0 : 1);
    }

    private static void complain(String what) {
        wrong++;
        System.out.println(what);
    }

    private static Map<String, Method> face() {
        Map<String, Method> face = new TreeMap<>();
        for (Method method : TriggerAnalyzer.class.getDeclaredMethods()) {
            if (Modifier.isPublic(method.getModifiers())) {
                face.put(method.getName(), method);
            }
        }
        return face;
    }

    /** Each method has answered, and has thrown each exception that its promise names. */
    private static void eachOutcomeWasSeen(Method method) {
        List<String> due = new ArrayList<>(List.of("an answer"));
        for (Class<?> exception : method.getExceptionTypes()) {
            due.add(exception.getSimpleName());
        }
        for (String outcome : due) {
            if (wrong == 0 && OUTCOMES.getOrDefault(method.getName() + ": " + outcome, 0) == 0) {
                complain("no call of " + method.getName() + " came to " + outcome);
            }
        }
    }

    private void makeCalls() throws ReflectiveOperationException {
        isFull = random.nextInt(3) == 0;
        int rules = isFull ? 8 : random.nextInt(9);
        for (int i = 0; i < rules * 5; i++) {
            call(i % 5 == 0 ? "addRule" : "addAction");
        }
        while (calls < CALLS && wrong == 0) {
            for (int i = random.nextInt(6); i >= 0; i--) {
                call("change");
            }
            call(CHANGING[random.nextInt(CHANGING.length)]);
            call("explore");
            for (int i = random.nextInt(16); i >= 0; i--) {
                call(ASKING[random.nextInt(ASKING.length)]);
            }
        }
    }

    private void call(String name) throws ReflectiveOperationException {
        if (calls < CALLS && wrong == 0) {
            calls++;
            Method method = FACE.get(name);
            compare(method, argumentsOf(method));
        }
    }

    private void compare(Method method, Object[] arguments) throws ReflectiveOperationException {
        Method same = GuardedReference.class.getDeclaredMethod(method.getName(), method.getParameterTypes());
        Object got = outcome(method, real, arguments);
        Object due = outcome(same, plain, arguments);
        String call = method.getName() + Arrays.toString(arguments);
        log.append(call).append(" -> ").append(due).append('\n');
        if (!got.equals(due)) {
            complain("seed " + seed + ", after\n" + log + call + " came to " + got + ", due is " + due);
        }
        String kind = due instanceof String ? (String) due : "an answer";
        OUTCOMES.merge(method.getName() + ": " + kind, 1, Integer::sum);
    }

    private static Object outcome(Method method, Object object, Object[] arguments) throws ReflectiveOperationException {
        try {
            return method.invoke(object, arguments);
        } catch (InvocationTargetException e) {
            return e.getCause().getClass().getSimpleName();
        }
    }

    private Object[] argumentsOf(Method method) {
        Class<?>[] types = method.getParameterTypes();
        Object[] arguments = new Object[types.length];
        for (int i = 0; i < types.length; i++) {
            if (types[i] == boolean.class) {
                arguments[i] = random.nextInt(3) > 0;
            } else {
                arguments[i] = number(method.getName(), i);
            }
        }
        return arguments;
    }

    private int number(String method, int place) {
        if (random.nextInt(25) == 0) {
            return FAR_OFF[random.nextInt(FAR_OFF.length)];
        }
        switch (method) {
            case "addRule":
                return place == 0 ? below(6) : smallSet();
            case "addAction":
                return place == 0 ? newestRule() : below(6);
            case "change":
                return below(6);
            case "put":
                return below(64);
            case "run":
                return random.nextBoolean() ? below(4) : below(501);
            case "factsOf":
            case "triggeredOf":
                return below(plain.askable());
            case "after":
                return place == 0 ? below(plain.askable()) : below(plain.ruleCount());
            case "end":
                return below(3);
            case "conflict":
                return below(plain.conflictCount());
            default:
                return below(plain.ruleCount());
        }
    }

    /** Mostly the newest, so that rules get their actions one after the other. */
    private int newestRule() {
        int count = plain.ruleCount();
        return count == 0 || random.nextInt(5) == 0 ? below(count) : count - 1;
    }

    /** Conditions with many facts are hardly ever true. */
    private int smallSet() {
        int set = below(64);
        if (set == 64) {
            return set;
        }
        return isFull && random.nextInt(4) > 0 ? 0 : set & random.nextInt(64) & random.nextInt(64);
    }

    /** Mostly a right number, now and then the first one that is too large. */
    private int below(int bound) {
        return bound == 0 || random.nextInt(12) == 0 ? bound : random.nextInt(bound);
    }
}
