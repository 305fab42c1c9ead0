/** 'Terms' 5, sentence by sentence: each boundary of the rules of PROOFS, and one beyond it. */
public final class EdgesOfProofsTest {
    private static final Kit KIT = new Kit("EdgesOfProofsTest");

    public static void main(String[] args) {
        lengths();
        oneStep();
        order();
        axioms();
        value();
        named();
        weak();
        cut();
        inst();
        swap();
        put();
        induct();
        KIT.end();
    }

    private static ClauseKernel kernel() {
        return KIT.told("(defun f (x) (if x (f (car x)) 1))", "(check a (equal y y) (same y))",
                Kit.BAD);
    }

    private static void lengths() {
        KIT.sentence("PROOFS, and the clause that each has: as many parts as its form has");
        ClauseKernel kernel = kernel();
        for (String proof : new String[] {"(taut x)", "(same x)", "(value (car 7))", "(first x y)", "(second x y)", "(pair x y)",
            "(yes x y z)", "(no x y z)", "(def f)", "(thm a)", "(weak (x) (same x))", "(cut x (taut x) (taut x))",
            "(swap (same x))", "(put (same x) (same y))", "(induct (equal x x) (f x) (same x) (same x))"}) {
            KIT.fine(kernel, proof);
            String inside = proof.substring(0, proof.length() - 1);
            KIT.itself(kernel, inside + " x)");
            KIT.itself(kernel, inside + " (same x))");
            KIT.itself(kernel, inside + " . x)");
            KIT.itself(kernel, "(" + proof.substring(1, proof.indexOf(' ')) + ")");
        }
        for (String proof : new String[] {"(first x)", "(second x)", "(pair x)", "(yes x y)", "(no x y)", "(yes x)", "(no x)",
            "(weak (x))", "(cut x (taut x))", "(cut x)", "(put (same x))", "(induct (equal x x) (f x) (same x))",
            "(induct (equal x x) (f x))", "(induct (equal x x))", "(inst)"}) {
            KIT.itself(kernel, proof);
            KIT.due("steps() of " + proof, kernel.steps(), 1);
        }
        for (String proof : new String[] {"x", "0", "nil", "t", "'x", "(x)", "(tautt x)", "(tau x)", "((taut x))", "(taut . x)",
            "(undo)", "(car x)", "(7 x)", "(nil x)", "(quote x y)"}) {
            KIT.itself(kernel, proof);
            KIT.due("steps() of " + proof, kernel.steps(), 1);
        }
    }

    private static void oneStep() {
        KIT.sentence("Each is one STEP, ahead of all else, TOO DEEP within 40 others (asked first)");
        ClauseKernel kernel = kernel();
        KIT.fine(kernel, "(cut x (weak (x) (same y)) (swap (weak ((not x)) (same z))))");
        KIT.due("steps()", kernel.steps(), 6);
        KIT.wrong(kernel, "(cut x (weak (x) (same y)) (swap (taut x)))", "(swap (taut x))");
        KIT.due("steps()", kernel.steps(), 5);
        kernel.fuel(1);
        KIT.itself(kernel, "(taut)");
        KIT.work(kernel, "(swap (taut))", 1);
        KIT.due("steps()", kernel.steps(), 1);
        kernel.fuel(1000);
        String two = "(induct (equal x x) (f x) ";
        within(kernel, "(swap ", ")", 1);
        within(kernel, "(weak (y) ", ")", 1);
        within(kernel, "(inst ", " (y z))", 1);
        within(kernel, "(cut x ", " (taut x))", 1);
        within(kernel, "(cut x (taut x) ", ")", 2);
        within(kernel, "(put ", " (same x))", 1);
        within(kernel, "(put (same x) ", ")", 2);
        within(kernel, two, " (same x))", 1);
        within(kernel, two + "(same x) ", ")", 2);
    }

    /** As many others as a TEXT can put around a PROOF are not too many, whichever part of these it is. */
    private static void within(ClauseKernel kernel, String front, String behind, int steps) {
        for (int others = 37; others <= 38; others++) {
            String proof = Kit.times(others, front) + "(swap x)" + Kit.times(others, behind);
            KIT.wrong(kernel, proof, "x");
            KIT.due("steps() of " + others + " times " + front, kernel.steps(), others * steps + 2);
            KIT.answers(kernel, "(check b x " + proof + ")", 7, "x");
        }
    }

    private static void order() {
        KIT.sentence("Its form is asked ahead of its parts, then these from the left, then what is told of their clauses; "
                + "where something is not so: 7, OUT that PROOF");
        ClauseKernel kernel = kernel();
        KIT.itself(kernel, "(weak (x . y) nonsense)");
        KIT.wrong(kernel, "(weak (x) nonsense)", "nonsense");
        KIT.itself(kernel, "(cut (nope) one two)");
        KIT.wrong(kernel, "(cut x one two)", "one");
        KIT.wrong(kernel, "(cut x (same y) two)", "two");
        KIT.itself(kernel, "(cut x (same y) (same y))");
        KIT.itself(kernel, "(inst one (x (nope)))");
        KIT.wrong(kernel, "(inst one (x y))", "one");
        KIT.itself(kernel, "(put one)");
        KIT.wrong(kernel, "(put one two)", "one");
        KIT.wrong(kernel, "(put (taut x) two)", "two");
        KIT.itself(kernel, "(put (taut x) (taut x))");
        KIT.wrong(kernel, "(swap one)", "one");
        KIT.itself(kernel, "(induct (equal y y) (f x) one)");
        KIT.wrong(kernel, "(induct (equal y y) (f x) one two)", "one");
        KIT.wrong(kernel, "(induct (equal y y) (f x) (same z) two)", "two");
        KIT.itself(kernel, "(induct (equal y y) (f x) (same z) (same y))");
        KIT.itself(kernel, "(induct (equal y y) (f x) (same y) (same z))");
        KIT.wrong(kernel, "(weak (x) (swap (put (same x) (cut x (same y) (taut x)))))", "(cut x (same y) (taut x))");
        KIT.wrong(kernel, "(taut '7 'nil (quote 007) (x . nil))", "(taut '7 'nil '7 (x))");
        KIT.answers(kernel, "(check b (equal x x) (swap (taut x)))", 7, "(swap (taut x))");
    }

    private static void axioms() {
        KIT.sentence("taut, same, first, second, pair, yes, no");
        ClauseKernel kernel = kernel();
        KIT.clause(kernel, "(taut nil)", "(nil t)");
        KIT.clause(kernel, "(same nil)", "((equal nil nil))");
        KIT.clause(kernel, "(first nil t)", "((equal (car (cons nil t)) nil))");
        KIT.clause(kernel, "(second nil t)", "((equal (cdr (cons nil t)) t))");
        KIT.clause(kernel, "(pair nil '(x))", "((consp (cons nil '(x))))");
        KIT.clause(kernel, "(yes nil 1 2)", "(t (equal (if nil 1 2) 1))");
        KIT.clause(kernel, "(yes 7 1 2)", "(nil (equal (if 7 1 2) 1))");
        KIT.clause(kernel, "(yes (not x) 1 2)", "(x (equal (if (not x) 1 2) 1))");
        KIT.clause(kernel, "(no nil 1 2)", "(nil (equal (if nil 1 2) 2))");
        KIT.clause(kernel, "(no (not x) 1 2)", "((not x) (equal (if (not x) 1 2) 2))");
        KIT.clause(kernel, "(no (equal (if x 1 2) 2) 1 2)",
                "((equal (if x 1 2) 2) (equal (if (equal (if x 1 2) 2) 1 2) 2))");
        for (String rule : "taut same first second pair yes no".split(" ")) {
            int takes = "yes no".contains(rule) ? 3 : "first second pair".contains(rule) ? 2 : 1;
            for (int k = 0; k < takes; k++) {
                KIT.itself(kernel, "(" + rule + Kit.times(k, " x") + " (nope)" + Kit.times(takes - 1 - k, " x") + ")");
                KIT.itself(kernel, "(" + rule + Kit.times(k, " x") + " (car x . x)" + Kit.times(takes - 1 - k, " x") + ")");
            }
        }
    }

    private static void value() {
        KIT.sentence("(value L): (equal L K), L a call of a BASE function of constants, K its value (TOO GREAT: 7)");
        ClauseKernel kernel = kernel();
        KIT.clause(kernel, "(value (cons '7 'x))", "((equal (cons 7 'x) '(7 . x)))");
        KIT.clause(kernel, "(value (car '(quote x)))", "((equal (car ''x) 'quote))");
        KIT.clause(kernel, "(value (cdr ''x))", "((equal (cdr ''x) '(x)))");
        KIT.clause(kernel, "(value (cons 'quote '(7)))", "((equal (cons 'quote '(7)) ''7))");
        for (String none : new String[] {"7", "nil", "x", "'(car 7)", "(car x)", "(if t 1 x)", "(if nil x 1)", "(car (car 7))",
            "(cons 1 (car 7))", "(f 1)", "(bad nil)", "(nope 1)", "(car)"}) {
            KIT.itself(kernel, "(value " + none + ")");
        }
        KIT.fine(kernel, "(value (+ 1 4611686018427387902))");
        KIT.itself(kernel, "(value (+ 1 4611686018427387903))");
        KIT.answers(kernel, "(check b nil (value (+ 1 4611686018427387903)))", 7, "(value (+ 1 4611686018427387903))");
    }

    private static void named() {
        KIT.sentence("(def f): f DEFINED with x and T. (thm n): the theorem's F");
        ClauseKernel kernel = kernel();
        KIT.clause(kernel, "(def f)", "((equal (f x) (if x (f (car x)) 1)))");
        KIT.clause(kernel, "(thm a)", "((equal y y))");
        for (String proof : new String[] {"(def a)", "(def car)", "(def if)", "(def nil)", "(def 7)", "(def (f))", "(def 'f)",
            "(def f2)", "(thm f)", "(thm a2)", "(thm nil)", "(thm 7)", "(thm (a))", "(thm 'a)", "(thm car)"}) {
            KIT.itself(kernel, proof);
        }
        KIT.answers(kernel, "(undo)", 0, "");
        KIT.itself(kernel, "(def bad)");
        KIT.clause(kernel, "(thm a)", "((equal y y))");
    }

    private static void weak() {
        KIT.sentence("(weak C P): P's literals, then those of C; C is a list of terms");
        ClauseKernel kernel = kernel();
        KIT.clause(kernel, "(weak () (same x))", "((equal x x))");
        KIT.clause(kernel, "(weak (x) (same x))", "((equal x x) x)");
        KIT.clause(kernel, "(weak () " + Kit.EMPTY + ")", "nil");
        KIT.clause(kernel, "(weak (x y x) " + Kit.EMPTY + ")", "(x y)");
        KIT.clause(kernel, "(weak (" + Kit.times(900, "x ") + ") (same x))", "((equal x x) x)");
        for (String list : new String[] {"x", "7", "t", "(x . y)", "(x . t)", "((nope))", "(x (car))", "(x y (car x y))"}) {
            KIT.itself(kernel, "(weak " + list + " (same x))");
        }
    }

    private static void cut() {
        KIT.sentence("(cut L P Q): P's without L, which it must have, then Q's without NOT L, which it must have");
        ClauseKernel kernel = kernel();
        KIT.clause(kernel, "(cut x (weak (x) (same y)) (weak ((not x)) (same z)))", "((equal y y) (equal z z))");
        KIT.clause(kernel, "(cut (not x) (weak ((not x)) (same y)) (weak (x) (same z)))", "((equal y y) (equal z z))");
        KIT.clause(kernel, "(cut nil (weak (nil) (same y)) (weak (t) (same z)))", "((equal y y) (equal z z))");
        KIT.clause(kernel, "(cut 7 (weak (7) (same y)) (weak (nil) (same z)))", "((equal y y) (equal z z))");
        KIT.clause(kernel, "(cut x (weak (x (not x)) (same y)) (weak ((not x) x) (same z)))",
                "((equal y y) (not x) (equal z z) x)");
        KIT.clause(kernel, "(cut (bad x) (weak ((bad x)) " + Kit.EMPTY + ") (weak ((not (bad x))) " + Kit.EMPTY + "))", "nil");
        KIT.itself(kernel, "(cut x (same y) (weak ((not x)) (same z)))");
        KIT.itself(kernel, "(cut x (weak (x) (same y)) (same z))");
        KIT.itself(kernel, "(cut x (weak ((not x)) (same y)) (weak (x) (same z)))");
        KIT.itself(kernel, "(cut x " + Kit.EMPTY + " (taut x))");
        KIT.itself(kernel, "(cut x (taut x) " + Kit.EMPTY + ")");
        KIT.itself(kernel, "(cut 7 (weak (7) (same y)) (weak ((not 7)) (same z)))");
        KIT.itself(kernel, "(cut (not (not x)) (taut (not (not x))) (weak (x) (same y)))");
    }

    private static void inst() {
        KIT.sentence("(inst P (x T) ..): P's with T for x, different variables x, perhaps none");
        ClauseKernel kernel = kernel();
        KIT.clause(kernel, "(inst (taut x))", "(x (not x))");
        KIT.clause(kernel, "(inst (taut x) (x y))", "(y (not y))");
        KIT.clause(kernel, "(inst (taut (cons x y)) (x y) (y x))", "((cons y x) (not (cons y x)))");
        KIT.clause(kernel, "(inst (taut x) (y z))", "(x (not x))");
        KIT.clause(kernel, "(inst " + Kit.EMPTY + " (x y))", "nil");
        KIT.itself(kernel, "(inst (taut x) (x y) (x y))");
        KIT.itself(kernel, "(inst (taut x) (x y) (z y) (x z))");
        StringBuilder many = new StringBuilder();
        for (int k = 0; k < 190; k++) {
            many.append(" (v").append(k).append(" 7)");
        }
        KIT.clause(kernel, "(inst (weak (v0 v189) (same v190))" + many + ")", "((equal v190 v190) 7)");
        KIT.itself(kernel, "(inst (same x)" + many + " (v189 7))");
        for (String two : new String[] {"x", "nil", "(x)", "(x y z)", "(x . y)", "(nil y)", "(t y)", "(7 y)", "((x) y)", "('x y)",
            "(x (nope))", "(x y . z)"}) {
            KIT.itself(kernel, "(inst (taut x) " + two + ")");
        }
        KIT.itself(kernel, "(inst (taut x) x y)");
        KIT.itself(kernel, "(inst (taut x) (x y) . z)");
    }

    private static void swap() {
        KIT.sentence("(swap P): P's first literal must be (equal A B): (equal B A), then the others");
        ClauseKernel kernel = kernel();
        KIT.clause(kernel, "(swap (first x y))", "((equal x (car (cons x y))))");
        KIT.clause(kernel, "(swap (weak (x y) (first x y)))", "((equal x (car (cons x y))) x y)");
        KIT.itself(kernel, "(swap (weak ((equal x y)) (taut x)))");
        KIT.itself(kernel, "(swap (yes x y z))");
        KIT.itself(kernel, "(swap (taut (not (equal x y))))");
        KIT.itself(kernel, "(swap (taut '(equal x y)))");
        KIT.itself(kernel, "(swap (taut equal))");
        KIT.itself(kernel, "(swap " + Kit.EMPTY + ")");
    }

    private static void put() {
        KIT.sentence("(put P Q): Q's, with B wherever A stands in them as a term, then P's others");
        ClauseKernel kernel = kernel();
        KIT.clause(kernel, "(put (same x) (taut x))", "(x (not x))");
        KIT.clause(kernel, "(put (first x y) (taut z))", "(z (not z))");
        KIT.clause(kernel, "(put (taut (equal x y)) (taut x))", "(y (not y) (not (equal x y)))");
        KIT.clause(kernel, "(put (taut (equal x (car x))) (taut (car x)))",
                "((car (car x)) (not (car (car x))) (not (equal x (car x))))");
        KIT.clause(kernel, "(put (taut (equal (car x) x)) (taut (car (car x))))",
                "((car x) (not (car x)) (not (equal (car x) x)))");
        KIT.clause(kernel, "(put (taut (equal x y)) (taut '(x)))", "('(x) nil (not (equal x y)))");
        KIT.clause(kernel, "(put (taut (equal 7 x)) (taut (cons 7 (cons '(7) 77))))",
                "((cons x (cons '(7) 77)) (not (cons x (cons '(7) 77))) (not (equal 7 x)))");
        KIT.clause(kernel, "(put (taut (equal car y)) (taut (car car)))", "((car y) (not (car y)) (not (equal car y)))");
        KIT.clause(kernel, "(put (same x) " + Kit.EMPTY + ")", "nil");
        KIT.clause(kernel, "(put (taut (equal x y)) " + Kit.EMPTY + ")", "((not (equal x y)))");
        KIT.itself(kernel, "(put " + Kit.EMPTY + " (same x))");
        KIT.itself(kernel, "(put (taut x) (taut x))");
        KIT.itself(kernel, "(put (weak ((equal x y)) (taut x)) (taut x))");
    }

    private static void induct() {
        KIT.sentence("(induct F (f v ..) P ..): a P for each PATH, whose clause must have no literals but those of the "
                + "INDUCTION's clause for it: F");
        ClauseKernel kernel = kernel();
        KIT.clause(kernel, "(induct x (f x) " + Kit.EMPTY + " " + Kit.EMPTY + ")", "(x)");
        KIT.clause(kernel, "(induct '7 (f x) " + Kit.EMPTY + " " + Kit.EMPTY + ")", "(7)");
        KIT.clause(kernel, "(induct (equal y y) (f y) (same y) (weak (y) (same y)))", "((equal y y))");
        KIT.clause(kernel, "(induct (equal y y) (f y) (weak ((not y)) (same y)) (same y))", "((equal y y))");
        KIT.itself(kernel, "(induct (equal y y) (f y) (weak (y) (same y)) (same y))");
        KIT.itself(kernel, "(induct (equal y y) (f y) (same y) (weak ((not y)) (same y)))");
        KIT.itself(kernel, "(induct (equal y y) (f y) (same x) (same y))");
        KIT.itself(kernel, "(induct (equal y y) (f y) (same y) (same x))");
        KIT.itself(kernel, "(induct (nope) (f y) (same y) (same y))");
        KIT.itself(kernel, "(induct (equal y y) f (same y) (same y))");
        KIT.itself(kernel, "(induct (equal y y) nil (same y) (same y))");
    }
}
