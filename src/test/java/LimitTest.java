/** Promise 5: what is TOO BIG or TOO DEEP, and that a FAULT OF WORK changes nothing. */
public final class LimitTest {
    private static final Kit KIT = new Kit("LimitTest");

    public static void main(String[] args) {
        terms();
        clauses();
        literals();
        inductions();
        order();
        depth();
        KIT.end();
    }

    private static void fine(ClauseKernel kernel, String proof) {
        KIT.due(proof, Kit.say(kernel, "(clause " + proof + ")"), 0);
    }

    private static void tooBig(ClauseKernel kernel, String proof) {
        KIT.work(kernel, proof, 4);
    }

    private static String x(int size) {
        return Kit.wide(size, "x");
    }

    private static void terms() {
        ClauseKernel kernel = KIT.told("(defun f (x) " + x(117) + ")", "(defun g (x) " + x(118) + ")");
        fine(kernel, "(taut " + x(119) + ")");
        tooBig(kernel, "(taut " + x(120) + ")");
        fine(kernel, "(taut (not " + x(119) + "))");
        fine(kernel, "(same " + x(59) + ")");
        tooBig(kernel, "(same " + x(60) + ")");
        fine(kernel, "(first " + x(58) + " x)");
        tooBig(kernel, "(first " + x(59) + " x)");
        fine(kernel, "(first x " + x(115) + ")");
        tooBig(kernel, "(first x " + x(116) + ")");
        fine(kernel, "(second x " + x(58) + ")");
        tooBig(kernel, "(second x " + x(59) + ")");
        fine(kernel, "(pair x " + x(117) + ")");
        tooBig(kernel, "(pair x " + x(118) + ")");
        fine(kernel, "(yes " + x(115) + " x x)");
        tooBig(kernel, "(yes " + x(116) + " x x)");
        fine(kernel, "(no x x " + x(58) + ")");
        tooBig(kernel, "(no x x " + x(59) + ")");
        fine(kernel, "(def f)");
        tooBig(kernel, "(def g)");
        fine(kernel, "(inst (taut (car x)) (x " + x(118) + "))");
        tooBig(kernel, "(inst (taut (car x)) (x " + x(119) + "))");
        tooBig(kernel, "(inst (same x) (x " + x(60) + "))");
        fine(kernel, "(inst (inst (taut x) (x " + Kit.wide(30, "y") + ")) (y (car y)))");
        tooBig(kernel, "(inst (taut " + x(110) + ") (x " + Kit.wide(110, "y") + "))");
        fine(kernel, "(put (taut (equal x (car x))) (taut " + x(59) + "))");
        tooBig(kernel, "(put (taut (equal x (cons x (cons x x)))) (taut " + x(59) + "))");
        tooBig(kernel, "(put (taut (equal x " + Kit.wide(116, "y") + ")) (taut " + x(119) + "))");
        fine(kernel, "(put (taut (equal (car x) " + x(116) + ")) (pair y y))");
    }

    /** Literals without a size above what a term may have. */
    private static String weak(int... sizes) {
        StringBuilder all = new StringBuilder("(weak (");
        char leaf = 'a';
        for (int size : sizes) {
            all.append(Kit.wide(size, String.valueOf(leaf))).append(' ');
            leaf++;
        }
        return all.append(") (same x))").toString();
    }

    private static void clauses() {
        ClauseKernel kernel = new ClauseKernel();
        fine(kernel, weak(120, 120, 120, 37));
        KIT.due("count(2)", kernel.count(2), 5);
        tooBig(kernel, weak(120, 120, 120, 38));
        fine(kernel, "(weak ((equal x x) (equal x x)) " + weak(120, 120, 120, 37) + ")");
        tooBig(kernel, "(weak (x) " + weak(120, 120, 120, 37) + ")");
        fine(kernel, "(inst " + weak(120, 120, 120, 37) + ")");
        fine(kernel, "(inst " + weak(60, 60, 60, 60, 60) + " (a (not a)))");
        fine(kernel, "(inst " + weak(117, 117, 117, 30, 1) + " (x " + x(8) + "))");
        tooBig(kernel, "(inst " + weak(117, 117, 117, 30, 1) + " (x " + x(9) + "))");
        tooBig(kernel, "(cut (equal x x) " + weak(120, 120) + " (weak ((not (equal x x)) " + Kit.wide(120, "m") + " "
                + Kit.wide(41, "n") + ") (same y)))");
        fine(kernel, "(cut (equal x x) " + weak(120, 120) + " (weak ((not (equal x x)) " + Kit.wide(120, "m") + " "
                + Kit.wide(37, "n") + ") (same y)))");
        KIT.due("a literal that was too big is no more", kernel.count(2), 5);
    }

    private static String variables(int from, int to) {
        StringBuilder all = new StringBuilder();
        for (int k = from; k < to; k++) {
            all.append(" v").append(k);
        }
        return all.toString();
    }

    private static void literals() {
        ClauseKernel kernel = new ClauseKernel();
        fine(kernel, "(weak (" + variables(0, 29) + ") (same x))");
        KIT.due("count(2)", kernel.count(2), 30);
        tooBig(kernel, "(weak (" + variables(0, 30) + ") (same x))");
        fine(kernel, "(weak (" + variables(0, 29) + variables(0, 29) + ") (same x))");
        fine(kernel, "(cut v0 (weak (" + variables(0, 15) + ") (same x)) (weak ((not v0) " + variables(15, 30) + ") (same x)))");
        KIT.due("count(2)", kernel.count(2), 30);
        tooBig(kernel, "(cut v0 (weak (" + variables(0, 15) + ") (same x)) (weak ((not v0) " + variables(15, 31)
                + ") (same x)))");
        tooBig(kernel, "(put (weak (" + variables(0, 15) + ") (same x)) (weak (" + variables(15, 31) + ") (same x)))");
        fine(kernel, "(put (weak (" + variables(0, 15) + ") (same x)) (weak (" + variables(15, 29) + ") (same x)))");
        tooBig(kernel, "(weak (" + variables(0, 400) + ") (same x))");
    }

    private static void inductions() {
        ClauseKernel kernel = KIT.told("(defun f (x) (if x (f (cons x x)) 0))");
        String goal = "(equal " + Kit.wide(29, "y") + " " + Kit.wide(29, "y") + ")";
        String parts = " (same " + Kit.wide(29, "y") + ") (same " + Kit.wide(29, "y") + ")";
        fine(kernel, "(induct " + goal + " (f y)" + parts + ")");
        String more = "(equal " + Kit.wide(31, "y") + " " + Kit.wide(31, "y") + ")";
        String moreParts = " (same " + Kit.wide(31, "y") + ") (same " + Kit.wide(31, "y") + ")";
        tooBig(kernel, "(induct " + more + " (f y)" + moreParts + ")");
        fine(kernel, "(induct " + more + " (f x)" + moreParts + ")");

        StringBuilder calls = new StringBuilder("nil");
        for (int k = 0; k < 28; k++) {
            calls.insert(0, "(cons (g '" + k + ") ").append(")");
        }
        ClauseKernel many = KIT.told("(defun g (x) (if x " + calls + " 0))");
        fine(many, "(induct (equal x x) (g x) (same x) (same x))");
        ClauseKernel over = KIT.told("(defun g (x) (if x (cons (g 'm) " + calls + ") 0))");
        tooBig(over, "(induct (equal x x) (g x) (same x) (same x))");
        fine(over, "(induct (equal y y) (g x) (same y) (same y))");
    }

    /** What is wrong, and what is TOO BIG, each as it comes. */
    private static void order() {
        ClauseKernel kernel = KIT.told("(defun f (x) (if x (f (cons x x)) 0))");
        String full = x(120);
        KIT.wrong(kernel, "(cut " + full + " (same x) (same x))", "(cut " + full + " (same x) (same x))");
        tooBig(kernel, "(cut " + full + " (weak (" + full + ") (same x)) (same x))");
        KIT.wrong(kernel, "(put (taut x) (put (same x) (taut y) z))", "(put (same x) (taut y) z)");
        tooBig(kernel, "(put (taut x) (same " + x(60) + "))");
        KIT.wrong(kernel, "(put nonsense (same " + x(60) + "))", "nonsense");
        KIT.wrong(kernel, "(weak (" + x(121) + ") (same " + x(60) + "))", "(weak (" + x(121) + ") (same " + x(60) + "))");
        String more = "(equal " + Kit.wide(31, "y") + " " + Kit.wide(31, "y") + ")";
        tooBig(kernel, "(induct " + more + " (f y) (same a) (same a))");

        KIT.answers(kernel, "(check a (equal x x) (put (same x) (same " + x(60) + ")))", 4, "");
        KIT.due("fault(2)", kernel.fault(2), 4);
        KIT.due("steps()", kernel.steps(), 3);
        KIT.due("nothing was taken", kernel.count(1), 0);
        KIT.due("nothing is gone", kernel.count(0), 1);
    }

    /** As deep as a TEXT lets PROOFS be, they are not TOO DEEP. */
    private static void depth() {
        ClauseKernel kernel = new ClauseKernel();
        KIT.clause(kernel, Kit.times(38, "(swap ") + "(same x)" + Kit.times(38, ")"), "((equal x x))");
        KIT.due("steps()", kernel.steps(), 39);
        KIT.wrong(kernel, Kit.times(39, "(swap ") + "x" + Kit.times(39, ")"), "x");
        KIT.due("steps()", kernel.steps(), 40);
        KIT.unread(kernel, "(clause " + Kit.times(40, "(swap "), 4, 8 + 39 * 6);
        String tower = Kit.tower("car", 37, "x");
        KIT.clause(kernel, "(inst (inst (taut " + tower + ") (x " + tower + ")) (x " + tower + "))",
                "(" + Kit.tower("car", 109, "x") + " (not " + Kit.tower("car", 109, "x") + "))");
    }
}
