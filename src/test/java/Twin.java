import java.lang.reflect.InvocationTargetException;
import java.lang.reflect.Method;
import java.util.HashMap;
import java.util.Map;
import java.util.TreeMap;

/** The class and the Model side by side: each call must have the same answer or the same exception in both. */
final class Twin {
    private static final Map<String, Method> METHODS = new HashMap<>();
    /** For each call, how often it answered and how often it threw. */
    static final Map<String, int[]> SEEN = new TreeMap<>();

    static {
        for (Method m : NetworkCenters.class.getDeclaredMethods()) {
            METHODS.put(m.getName(), m);
        }
    }

    final Model model = new Model();
    private final NetworkCenters real = new NetworkCenters();
    private final StringBuilder history = new StringBuilder();
    int calls;

    /** Tells whether the call answered; a call behind the 512th is left out. */
    boolean call(String name, int... args) {
        if (calls >= 512) {
            return false;
        }
        calls++;
        StringBuilder shown = new StringBuilder(name).append('(');
        for (int i = 0; i < args.length; i++) {
            shown.append(i == 0 ? "" : ", ").append(args[i]);
        }
        shown.append(')');
        history.append(shown).append("; ");
        String due = modelAnswer(name, args);
        String got = realAnswer(name, args);
        boolean answered = !due.startsWith("throws");
        SEEN.computeIfAbsent(name, k -> new int[2])[answered ? 0 : 1]++;
        if (!due.equals(got)) {
            System.out.println(history);
            System.out.println(shown + " answered " + got + ", due is " + due);
            System.exit(1);
        }
        return answered;
    }

    void type(String text) {
        for (int i = 0; i < text.length(); i++) {
            call("type", text.charAt(i));
        }
    }

    private String modelAnswer(String name, int[] args) {
        try {
            return Long.toString(model.call(name, args));
        } catch (IllegalStateException | IllegalArgumentException | IndexOutOfBoundsException e) {
            return "throws " + e.getClass().getSimpleName();
        }
    }

    private String realAnswer(String name, int[] args) {
        Object[] boxed = new Object[args.length];
        for (int i = 0; i < args.length; i++) {
            boxed[i] = args[i];
        }
        try {
            Object answer = METHODS.get(name).invoke(real, boxed);
            return answer instanceof Boolean b ? b ? "1" : "0" : answer.toString();
        } catch (InvocationTargetException e) {
            return "throws " + e.getCause().getClass().getSimpleName();
        } catch (IllegalAccessException e) {
            throw new AssertionError(e);
        }
    }

    /** Whether all calls of the face have answered at least once; says which have not. */
    static boolean allSeen(boolean show) {
        boolean good = SEEN.size() == 35;
        for (Map.Entry<String, int[]> e : SEEN.entrySet()) {
            boolean never = e.getValue()[0] == 0;
            good &= !never;
            if (show || never) {
                System.out.println(e.getKey() + ": answers " + e.getValue()[0] + ", exceptions " + e.getValue()[1]);
            }
        }
        return good;
    }
}
