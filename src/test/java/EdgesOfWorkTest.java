/** 'Terms' 3, sentence by sentence: each boundary of FUEL and of the FAULTS OF WORK, and one beyond it. */
public final class EdgesOfWorkTest {
    private static final Kit KIT = new Kit("EdgesOfWorkTest");

    public static void main(String[] args) {
        fuel();
        outOfFuel();
        greatest();
        tooDeep();
        tooBig();
        asTheyCome();
        changesNothing();
        KIT.end();
    }

    private static void fuel() {
        KIT.sentence("Each command has FUEL, 1 .. 1000 (1000 at first)");
        ClauseKernel kernel = new ClauseKernel();
        KIT.due("fuel(0)", kernel.fuel(0), -1);
        KIT.due("fuel(1001)", kernel.fuel(1001), -1);
        KIT.due("fuel(1)", kernel.fuel(1), 1000);
        KIT.due("fuel(1000)", kernel.fuel(1000), 1);
        KIT.due("fuel(999)", kernel.fuel(999), 1000);
        KIT.due("fuel(2)", kernel.fuel(2), 999);
        KIT.fine(kernel, "(swap (same x))");
        KIT.fine(kernel, "(swap (same x))");
        KIT.work(kernel, "(swap (swap (same x)))", 1);
        KIT.fine(kernel, "(swap (same x))");
        KIT.due("the FUEL stays", kernel.fuel(1), 2);
        KIT.answers(kernel, "(defun f (x) x)", 0, "");
        KIT.answers(kernel, "(check a (equal x x) (same x))", 0, "");
        KIT.answers(kernel, "(undo)", 0, "");
    }

    /** A proof of as many steps as are asked, and what it answers with each FUEL around these. */
    private static void steps(String proof, int steps) {
        ClauseKernel kernel = KIT.told("(defun f (x) (if x (f x) 1))", "(check a (equal x x) (same x))");
        KIT.fine(kernel, proof);
        KIT.due("steps() of " + proof, kernel.steps(), steps);
        kernel.fuel(steps);
        KIT.fine(kernel, proof);
        KIT.due("no fault", kernel.fault(2), 0);
        KIT.due("steps() of " + proof, kernel.steps(), steps);
        if (steps > 1) {
            kernel.fuel(steps - 1);
            KIT.work(kernel, proof, 1);
            KIT.due("steps() of " + proof, kernel.steps(), steps - 1);
            kernel.fuel(1);
            KIT.work(kernel, proof, 1);
            KIT.due("steps() of " + proof, kernel.steps(), 1);
        }
    }

    private static void outOfFuel() {
        KIT.sentence("1 OUT OF FUEL (a STEP more than FUEL)");
        for (String proof : new String[] {"(taut x)", "(same x)", "(value (car 7))", "(first x y)", "(second x y)",
            "(pair x y)", "(yes x y z)", "(no x y z)", "(def f)", "(thm a)"}) {
            steps(proof, 1);
        }
        steps("(weak (x) (same x))", 2);
        steps("(cut x (taut x) (taut x))", 3);
        steps("(inst (same x) (x y))", 2);
        steps("(swap (same x))", 2);
        steps("(put (same x) (same y))", 3);
        steps("(induct (equal x x) (f x) (same x) (swap (same x)))", 4);
        steps("(put (swap (thm a)) (cut x (taut x) (weak (x) (taut x))))", 7);
        ClauseKernel kernel = new ClauseKernel();
        kernel.fuel(1);
        KIT.wrong(kernel, "nonsense", "nonsense");
        KIT.work(kernel, "(swap nonsense)", 1);
        KIT.itself(kernel, "(cut (nope) nonsense nonsense)");
        KIT.due("a wrong one is a STEP too", kernel.steps(), 1);
    }

    /** More STEPS than these find no room in a text of 1000 words, so 1000 of FUEL never run out. */
    private static void greatest() {
        KIT.sentence("OUT OF FUEL, with the most STEPS that a TEXT can tell");
        String chain = Kit.times(20, "(swap ") + "(same x)" + Kit.times(20, ")");
        String proof = Kit.times(13, "(put " + chain) + chain + Kit.times(13, ")");
        steps(proof, 14 * 21 + 13);
        ClauseKernel kernel = new ClauseKernel();
        kernel.fuel(999);
        KIT.fine(kernel, proof);
    }

    private static void tooDeep() {
        KIT.sentence("2 TOO DEEP: within 40 others, where no TEXT comes: the deepest ones that it tells are fine");
        ClauseKernel kernel = new ClauseKernel();
        KIT.clause(kernel, Kit.times(38, "(swap ") + "(same x)" + Kit.times(38, ")"), "((equal x x))");
        KIT.due("steps()", kernel.steps(), 39);
        KIT.wrong(kernel, Kit.times(39, "(swap ") + "x" + Kit.times(39, ")"), "x");
        KIT.due("steps()", kernel.steps(), 40);
        KIT.due("fault(2)", kernel.fault(2), 0);
        KIT.unread(kernel, "(clause " + Kit.times(40, "(swap "), 4, 8 + 39 * 6);
        String right = Kit.times(38, "(put (same x) ") + "(same y)" + Kit.times(38, ")");
        KIT.clause(kernel, right, "((equal y y))");
        KIT.due("steps()", kernel.steps(), 77);
        KIT.answers(kernel, "(check a (equal x x) " + Kit.times(38, "(inst ") + "(same x)" + Kit.times(38, ")") + ")", 0, "");
        kernel.fuel(39);
        KIT.work(kernel, Kit.times(39, "(swap ") + "x" + Kit.times(39, ")"), 1);
    }

    private static void tooBig() {
        KIT.sentence("4 TOO BIG");
        ClauseKernel kernel = new ClauseKernel();
        KIT.fine(kernel, "(same " + Kit.wide(59, "x") + ")");
        KIT.due("fault(2)", kernel.fault(2), 0);
        KIT.tooBig(kernel, "(same " + Kit.wide(60, "x") + ")");
        KIT.due("fault(0)", kernel.fault(0), 0);
        KIT.due("fault(1)", kernel.fault(1), -1);
        KIT.fine(kernel, "(same x)");
        KIT.due("fault(2)", kernel.fault(2), 0);
    }

    private static void asTheyCome() {
        KIT.sentence("FAULTS OF WORK, as they come");
        ClauseKernel kernel = KIT.told("(defun f (x) (if x (f (cons x x)) 0))");
        String big = "(same " + Kit.wide(60, "x") + ")";
        KIT.wrong(kernel, "(put nonsense " + big + ")", "nonsense");
        KIT.tooBig(kernel, "(put " + big + " nonsense)");
        KIT.due("steps()", kernel.steps(), 2);
        KIT.tooBig(kernel, "(put (taut x) " + big + ")");
        KIT.due("steps()", kernel.steps(), 3);
        KIT.itself(kernel, "(weak (" + Kit.wide(121, "x") + ") " + big + ")");
        KIT.itself(kernel, "(cut (nope) " + big + " " + big + ")");
        kernel.fuel(2);
        KIT.tooBig(kernel, "(put " + big + " (same x))");
        KIT.work(kernel, "(put (same x) " + big + ")", 1);
        KIT.work(kernel, "(put (same x) nonsense)", 1);
        kernel.fuel(3);
        KIT.tooBig(kernel, "(put (same x) " + big + ")");
        String goal = "(equal " + Kit.wide(31, "y") + " " + Kit.wide(31, "y") + ")";
        KIT.tooBig(kernel, "(induct " + goal + " (f y) (same a) (same a))");
        KIT.work(kernel, "(induct " + goal + " (f y) (same a) (swap (same a)))", 1);
    }

    private static void changesNothing() {
        KIT.sentence("A command that has one changes nothing");
        ClauseKernel kernel = KIT.told("(defun f (x) x)", "(check a (equal y y) (same y))", "(clause (taut x))");
        String before = all(kernel);
        kernel.fuel(2);
        for (String proof : new String[] {"(swap (swap (same x)))", "(same " + Kit.wide(60, "x") + ")",
            "(weak (" + Kit.wide(119, "a") + Kit.wide(119, "b") + Kit.wide(119, "c") + Kit.wide(41, "d") + ") (same x))"}) {
            KIT.answers(kernel, "(check b (equal x x) " + proof + ")", 4, "");
            KIT.due("all after check", all(kernel), before);
            KIT.answers(kernel, "(clause " + proof + ")", 4, "");
            KIT.due("all after clause", all(kernel), before);
        }
        KIT.due("the FUEL", kernel.fuel(1000), 2);
        KIT.answers(kernel, "(check b (equal x x) (swap (swap (same x))))", 0, "");
        KIT.due("tell(2)", kernel.tell(2), 23);
    }

    private static String all(ClauseKernel kernel) {
        StringBuilder all = new StringBuilder();
        for (int k = 0; k < 3; k++) {
            all.append(kernel.count(k)).append(' ').append(kernel.tell(k)).append(Kit.out(kernel));
        }
        return all.toString();
    }
}
