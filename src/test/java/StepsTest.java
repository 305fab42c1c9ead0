/** Promise 7: steps. */
public final class StepsTest {
    private static final Kit KIT = new Kit("StepsTest");

    public static void main(String[] args) {
        ClauseKernel kernel = new ClauseKernel();
        KIT.due("before", kernel.steps(), 0);
        steps(kernel, "(clause (same x))", 1);
        steps(kernel, "(defun f (x) (if x (f (cdr x)) 0))", 0);
        steps(kernel, "(clause (cut x (taut x) (swap (swap (same x)))))", 5);
        steps(kernel, "(clause (cut x (taut x) (swap nonsense)))", 4);
        steps(kernel, "(clause (cut (nope) (taut x) (swap nonsense)))", 1);
        steps(kernel, "(check a (equal x x) (induct (equal x x) (f x) (same x) (weak (x) (same x))))", 4);
        steps(kernel, "(check a (equal x x) (same x))", 0);
        steps(kernel, "(check b (equal x y) (swap (same x)))", 2);
        steps(kernel, "(undo)", 0);
        steps(kernel, "(clause (swap (same x)))", 2);
        steps(kernel, "(clause", 0);
        steps(kernel, "(clause x)", 1);
        steps(kernel, "(clause)", 0);
        steps(kernel, "(clause (put (same x) (same " + Kit.wide(60, "x") + ")))", 3);
        kernel.fuel(3);
        steps(kernel, "(clause (swap (swap (swap (swap (same x))))))", 3);
        KIT.due("tell leaves them", kernel.tell(0) > 0, true);
        KIT.due("steps()", kernel.steps(), 3);
        kernel.fuel(1000);
        KIT.due("fuel leaves them", kernel.steps(), 3);
        String many = "(induct (equal x x) (f x) (same x) (same x))";
        String tree = many;
        for (int k = 0; k < 3; k++) {
            tree = "(put " + tree + " " + tree + ")";
        }
        steps(kernel, "(clause " + tree + ")", 8 * 3 + 7);
        KIT.end();
    }

    private static void steps(ClauseKernel kernel, String text, int steps) {
        Kit.say(kernel, text);
        KIT.due("steps() of " + text, kernel.steps(), steps);
    }
}
