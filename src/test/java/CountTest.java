/** Promise 8: count. */
public final class CountTest {
    private static final Kit KIT = new Kit("CountTest");

    public static void main(String[] args) {
        ClauseKernel kernel = new ClauseKernel();
        counts(kernel, "(undo)", 0, 0, 0);
        counts(kernel, "(defun f (x) x)", 1, 0, 0);
        counts(kernel, "(clause (taut x))", 1, 0, 2);
        counts(kernel, "(clause (swap (taut x)))", 1, 0, 2);
        counts(kernel, "(check a (equal x x) (same x))", 1, 1, 2);
        counts(kernel, "(check a (equal x x) (same x))", 1, 1, 2);
        counts(kernel, "(check b (equal x y) (same x))", 1, 1, 2);
        counts(kernel, "(clause (weak (x y x z (equal x x)) (thm a)))", 1, 1, 4);
        counts(kernel, "(clause", 1, 1, 4);
        counts(kernel, "(clause (same " + Kit.wide(60, "x") + "))", 1, 1, 4);
        counts(kernel, "(defun g (x) (f x))", 2, 1, 4);
        counts(kernel, "(undo)", 1, 1, 4);
        counts(kernel, "(undo)", 1, 0, 4);
        counts(kernel, "(undo)", 0, 0, 4);
        counts(kernel, "(undo)", 0, 0, 4);
        counts(kernel, "(clause (taut nil))", 0, 0, 2);
        counts(kernel, "(clause (same nil))", 0, 0, 1);
        KIT.due("count(3)", kernel.count(3), -1);
        KIT.due("count(-1)", kernel.count(-1), -1);
        KIT.due("count(least)", kernel.count(Integer.MIN_VALUE), -1);
        KIT.end();
    }

    private static void counts(ClauseKernel kernel, String text, int functions, int theorems, int literals) {
        Kit.say(kernel, text);
        KIT.due("count(0) after " + text, kernel.count(0), functions);
        KIT.due("count(1) after " + text, kernel.count(1), theorems);
        KIT.due("count(2) after " + text, kernel.count(2), literals);
    }
}
