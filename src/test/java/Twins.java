import java.lang.reflect.InvocationTargetException;
import java.lang.reflect.Method;
import java.lang.reflect.Modifier;
import java.util.ArrayList;
import java.util.Arrays;
import java.util.List;
import java.util.TreeMap;

/** The class and the model, called alike: every answer must be alike, too. */
final class Twins {
    private static final TreeMap<String, Method> REAL = methods(Branchwork.class);
    private static final TreeMap<String, Method> MODEL = methods(Model.class);

    private final Check check;
    private final TreeMap<String, Integer> seen;
    private final Branchwork real = new Branchwork();
    private final List<String> told = new ArrayList<>();
    final Model model = new Model();

    /** What seen holds is added up over all runs of a test. */
    Twins(Check check, TreeMap<String, Integer> seen) {
        this.check = check;
        this.seen = seen;
    }

    private static TreeMap<String, Method> methods(Class<?> of) {
        TreeMap<String, Method> found = new TreeMap<>();
        for (Method method : of.getDeclaredMethods()) {
            if (Modifier.isPublic(method.getModifiers())) {
                found.put(method.getName(), method);
            }
        }
        return found;
    }

    static Iterable<String> names() {
        return REAL.keySet();
    }

    int calls() {
        return told.size();
    }

    /** Answers what the model answered, which is due. */
    String call(String name, Integer... arguments) {
        String want = outcome(MODEL.get(name), model, arguments);
        String got = outcome(REAL.get(name), real, arguments);
        String call = name + Arrays.toString(arguments);
        told.add(call + " -> " + got);
        if (!want.equals(got)) {
            System.out.println(String.join("\n", told));
        }
        check.compare(call, want, got);
        note(name, want);
        return want;
    }

    /** The digest of the class alone, which counts as a call as any other one. */
    long digest() {
        told.add("digest");
        return real.digest();
    }

    private static String outcome(Method method, Object on, Object[] arguments) {
        try {
            return String.valueOf(method.invoke(on, arguments));
        } catch (InvocationTargetException e) {
            return e.getCause().getClass().getSimpleName();
        } catch (IllegalAccessException e) {
            return "not public";
        }
    }

    /** Which kinds of answers came up: runs that meet only a part would prove little. */
    private void note(String name, String answer) {
        boolean thrown = answer.endsWith("Exception");
        count(name + (thrown ? " " + answer : " answers"));
        if (name.equals("merge") && !thrown) {
            count("merge " + (Integer.parseInt(answer) > 0 ? "with conflicts" : answer));
            for (int i = 0; i < model.many(3); i++) {
                count("conflict code " + model.conflict(i, 0));
            }
        }
        if (name.equals("went") || name.equals("line")) {
            count(name + " tells " + (answer.startsWith("-") || thrown ? answer : "0 or more"));
        }
        if (name.equals("changes") || name.equals("status")) {
            count(name + " tells " + answer);
        }
    }

    private void count(String kind) {
        seen.merge(kind, 1, Integer::sum);
    }

    void wasMet(String... kinds) {
        for (String kind : kinds) {
            check.holds("meeting " + kind, check.isWrong() || seen.containsKey(kind));
        }
        if (System.getProperty("show") != null) {
            System.out.println(seen);
        }
    }
}
