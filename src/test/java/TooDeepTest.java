import java.lang.reflect.Field;
import java.lang.reflect.Method;

/**
 * 'Terms' 5: a PROOF is TOO DEEP within 40 others. No TEXT puts that many around one, as a 41st ( is a FAULT of
 * READING, so this test asks the insides of the class, with others around a PROOF that are not there.
 */
public final class TooDeepTest {
    private static final Kit KIT = new Kit("TooDeepTest");
    private static final String[] PARTS = {"(swap @)", "(weak () @)", "(inst @)", "(inst @ (x y))", "(cut x @ (taut x))",
        "(cut x (taut x) @)", "(put @ (same x))", "(put (same x) @)", "(induct (equal x x) (f x) @ (same x))",
        "(induct (equal x x) (f x) (same x) @)"};

    public static void main(String[] args) throws Exception {
        KIT.sentence("TOO DEEP within 40 others (asked first)");
        ClauseKernel kernel = KIT.told("(defun f (x) (if x (f x) 1))");
        prove(kernel, "(same x)", 39, 1000, "done, 1 steps");
        prove(kernel, "(same x)", 40, 1000, "fault 2, 0 steps");
        prove(kernel, "(same x)", 41, 1000, "fault 2, 0 steps");
        prove(kernel, "nonsense", 39, 1000, "fault 0, 1 steps");
        prove(kernel, "nonsense", 40, 1000, "fault 2, 0 steps");
        prove(kernel, "(swap (same x))", 38, 1000, "done, 2 steps");
        prove(kernel, "(swap (same x))", 39, 1000, "fault 2, 1 steps");
        prove(kernel, "(put (same x) (swap (same x)))", 37, 1000, "done, 4 steps");
        prove(kernel, "(put (same x) (swap (same x)))", 38, 1000, "fault 2, 3 steps");
        for (String part : PARTS) {
            String proof = part.replace("@", "nonsense");
            prove(kernel, proof, 38, 1000, "fault 0, " + (ahead(part) + 2) + " steps");
            prove(kernel, proof, 39, 1000, "fault 2, 1 steps");
            prove(kernel, proof, 39, 1, "fault 2, 1 steps");
            prove(kernel, part.replace("@", "(swap nonsense)"), 38, 1000, "fault 2, " + (ahead(part) + 2) + " steps");
        }
        KIT.end();
    }

    /** How many parts come ahead of the one that is asked. */
    private static int ahead(String part) {
        int parts = 0;
        for (String other : new String[] {"(taut x)", "(same x)"}) {
            int at = part.indexOf(other);
            parts += at >= 0 && at < part.indexOf('@') ? 1 : 0;
        }
        return parts;
    }

    private static void prove(ClauseKernel kernel, String proof, int others, int fuel, String due) throws Exception {
        Kit.bring(kernel, proof);
        Object text = field(kernel, "text");
        Object object = call(field(kernel, "reader"), "read", text);
        call(text, "cut", 0);
        Object prover = call(field(kernel, "prover"), "begin", fuel);
        Object clause = call(prover, "prove", object, others);
        String got = (clause != null ? "done" : "fault " + field(prover, "fault")) + ", " + field(prover, "steps") + " steps";
        KIT.due(proof + " within " + others + ", FUEL " + fuel, got, due);
    }

    private static Object field(Object of, String name) throws Exception {
        Field field = of.getClass().getDeclaredField(name);
        field.setAccessible(true);
        return field.get(of);
    }

    private static Object call(Object of, String name, Object... arguments) throws Exception {
        for (Method method : of.getClass().getDeclaredMethods()) {
            if (method.getName().equals(name) && method.getParameterCount() == arguments.length) {
                method.setAccessible(true);
                return method.invoke(of, arguments);
            }
        }
        throw new NoSuchMethodException(name);
    }
}
