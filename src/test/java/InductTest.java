/** Promise 5: induct, and the INDUCTION that it asks. */
public final class InductTest {
    private static final Kit KIT = new Kit("InductTest");

    public static void main(String[] args) {
        aTheorem();
        forms();
        rulers();
        calls();
        order();
        KIT.end();
    }

    private static void itself(ClauseKernel kernel, String proof) {
        KIT.wrong(kernel, proof, proof);
    }

    /** Whether a row of literals is within the INDUCTION's clause of one path, all others being trivial. */
    private static void within(ClauseKernel kernel, String goal, String scheme, String[] parts, boolean fine) {
        StringBuilder proof = new StringBuilder("(induct " + goal + " " + scheme);
        for (String part : parts) {
            proof.append(' ').append(part);
        }
        proof.append(')');
        if (fine) {
            KIT.clause(kernel, proof.toString(), "(" + goal + ")");
        } else {
            itself(kernel, proof.toString());
        }
    }

    /** That zero, which goes down a list, is 0 of each. */
    private static void aTheorem() {
        ClauseKernel kernel = KIT.told("(defun zero (x) (if (consp x) (zero (cdr x)) 0))");
        String yes = "(cut (not (consp x)) (yes (consp x) (zero (cdr x)) 0) (taut (consp x)))";
        String no = "(cut (consp x) (no (consp x) (zero (cdr x)) 0) (taut (consp x)))";
        String open = "(put " + yes + " (def zero))";
        KIT.clause(kernel, open, "((equal (zero x) (zero (cdr x))) (not (consp x)))");
        String first = "(put (taut (equal (zero (cdr x)) 0)) " + open + ")";
        KIT.clause(kernel, first, "((equal (zero x) 0) (not (consp x)) (not (equal (zero (cdr x)) 0)))");
        String second = "(put " + no + " (def zero))";
        KIT.clause(kernel, second, "((equal (zero x) 0) (consp x))");
        String proof = "(induct (equal (zero x) 0) (zero x) " + first + " " + second + ")";
        KIT.answers(kernel, "(check zero (equal (zero x) 0) " + proof + ")", 0, "");
        KIT.due("steps()", kernel.steps(), 1 + 7 + 5);
        KIT.clause(kernel, "(inst (thm zero) (x '(1 2)))", "((equal (zero '(1 2)) 0))");
        KIT.answers(kernel, "(check other (equal 0 (zero x)) " + proof + ")", 7, "((equal (zero x) 0))");
        itself(kernel, "(induct (equal (zero x) 0) (zero x) " + second + " " + first + ")");
        itself(kernel, "(induct (equal (zero x) 0) (zero y) " + first + " " + second + ")");
        itself(kernel, "(induct (equal (zero x) 1) (zero x) " + first + " " + second + ")");
    }

    private static void forms() {
        ClauseKernel kernel = KIT.told("(defun f (x y) (if x (f (cdr x) y) y))", "(defun g (x) (if x x x))",
                "(defun h () (if t 1 (h)))");
        String goal = "(equal a a)";
        KIT.clause(kernel, "(induct " + goal + " (f x y) (same a) (same a))", "((equal a a))");
        KIT.clause(kernel, "(induct " + goal + " (f y x) (same a) (same a))", "((equal a a))");
        KIT.clause(kernel, "(induct " + goal + " (f a b) (same a) (same a))", "((equal a a))");
        KIT.clause(kernel, "(induct " + goal + " (f quote if) (same a) (same a))", "((equal a a))");
        KIT.clause(kernel, "(induct " + goal + " (h) (same a) (same a))", "((equal a a))");
        KIT.clause(kernel, "(induct (equal '5 5) (h) (same 5) (same 5))", "((equal 5 5))");
        for (String scheme : new String[] {"(g x)", "(f x)", "(f x x)", "(f x y z)", "(f x . y)", "(f x nil)", "(f x 5)",
            "(f x t)", "(f x (y))", "f", "nil", "5", "(h x)", "(car x)", "(nope x)", "((f) x y)", "'x", "(if x y z)"}) {
            itself(kernel, "(induct " + goal + " " + scheme + " (same a) (same a))");
            KIT.due("the form is asked first", kernel.steps(), 1);
        }
        itself(kernel, "(induct (nope) (f x y) (same a) (same a))");
        itself(kernel, "(induct " + goal + " (f x y) (same a))");
        itself(kernel, "(induct " + goal + " (f x y) (same a) (same a) (same a))");
        itself(kernel, "(induct " + goal + " (f x y))");
        itself(kernel, "(induct " + goal + ")");
        itself(kernel, "(induct " + goal + " (f x y) (same a) nonsense (same a))");
        KIT.wrong(kernel, "(induct " + goal + " (f x y) nonsense other)", "nonsense");
        KIT.wrong(kernel, "(induct " + goal + " (f x y) (same b) other)", "other");
        itself(kernel, "(induct " + goal + " (f x y) (same b) (same a))");
        itself(kernel, "(induct " + goal + " (f x y) (same a) (same b))");
    }

    private static void rulers() {
        ClauseKernel kernel = KIT.told(
                "(defun f (x) (if (consp x) (if (not (natp x)) 1 (f x)) (if 'k 2 (if nil 3 4))))");
        String goal = "(equal a a)";
        String[] fine = {"(weak ((not (consp z)) (natp z)) (same a))",
            "(weak ((not (consp z)) (not (natp z)) (not (equal a a))) (same a))",
            "(weak ((consp z) nil) (same a))", "(weak ((consp z) t) (same a))", "(weak ((consp z) t nil) (same a))"};
        within(kernel, goal, "(f z)", fine, true);
        String[] wrong = {"(natp x)", "(natp z)", "(not nil)", "nil", "(not t)"};
        String[] right = {"(natp z)", "(not (natp z))", "nil", "t", "nil"};
        for (int k = 0; k < 5; k++) {
            String[] parts = {"(same a)", "(same a)", "(same a)", "(same a)", "(same a)"};
            parts[k] = "(weak (" + right[k] + ") (same a))";
            within(kernel, goal, "(f z)", parts, true);
            parts[k] = "(weak (" + wrong[k] + ") (same a))";
            within(kernel, goal, "(f z)", parts, false);
        }
    }

    private static void calls() {
        ClauseKernel kernel = KIT.told("(defun f (x y) (if x (cons (f y (car x)) (if (f y y) (f x 1) 2)) 'e))");
        String goal = "(equal (cons u v) (cons u v))";
        String premises = "(not (equal (cons v (car u)) (cons v (car u)))) (not (equal (cons v v) (cons v v)))"
                + " (not (equal (cons u 1) (cons u 1)))";
        String trivial = "(same (cons u v))";
        within(kernel, goal, "(f u v)", new String[] {"(weak ((not u) " + premises + ") " + trivial + ")",
            "(weak (u) " + trivial + ")"}, true);
        within(kernel, goal, "(f u v)", new String[] {"(weak (u) " + trivial + ")", trivial}, false);
        within(kernel, goal, "(f u v)", new String[] {trivial, "(weak ((not u)) " + trivial + ")"}, false);
        within(kernel, goal, "(f u v)", new String[] {trivial,
            "(weak ((not (equal (cons v v) (cons v v)))) " + trivial + ")"}, false);
        within(kernel, goal, "(f v u)", new String[] {
            "(weak ((not v) (not (equal (cons (car v) u) (cons (car v) u)))) " + trivial + ")", trivial}, true);
        within(kernel, goal, "(f v u)", new String[] {
            "(weak ((not (equal (cons v (car u)) (cons v (car u))))) " + trivial + ")", trivial}, false);
        itself(kernel, "(induct (equal x y) (f x y) (taut (equal x y)) (taut (equal x y)))");
    }

    /** The parts are done ahead of what is told of their clauses, and these from the left. */
    private static void order() {
        ClauseKernel kernel = KIT.told("(defun f (x) (if x (f (cons x (cons x x))) (if (car x) 1 (f (cons x x)))))");
        String wide = Kit.wide(59, "y");
        String goal = "(equal " + wide + " " + wide + ")";
        String proof = "(same " + wide + ")";
        KIT.work(kernel, "(induct " + goal + " (f y) " + proof + " " + proof + " " + proof + ")", 4);
        KIT.due("steps()", kernel.steps(), 4);
        KIT.wrong(kernel, "(induct " + goal + " (f y) " + proof + " " + proof + " nonsense)", "nonsense");
        KIT.clause(kernel, "(induct " + goal + " (f z) " + proof + " " + proof + " " + proof + ")", "(" + goal + ")");
    }
}
