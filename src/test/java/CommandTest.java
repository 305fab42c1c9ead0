/** Promise 5: the commands, their ANSWERS, and the order in which these are asked. */
public final class CommandTest {
    private static final Kit KIT = new Kit("CommandTest");

    public static void main(String[] args) {
        forms();
        defun();
        bodies();
        check();
        undo();
        room();
        terms();
        KIT.end();
    }

    private static void refused(ClauseKernel kernel, String text, int answer) {
        KIT.answers(kernel, text, answer, "");
    }

    private static void forms() {
        ClauseKernel kernel = new ClauseKernel();
        for (String text : new String[] {"undo", "5", "()", "'undo", "(undo x)", "(undo . x)", "((undo))", "(nope)",
            "(clause)", "(clause (same x) (same x))", "(clause . x)", "(check a (equal x x))",
            "(check a (equal x x) (same x) x)", "(check a (equal x x) . x)", "(defun f (x))", "(defun f (x) x x)",
            "(theorem a (equal x x))", "(taut x)", "(5)", "(defun)", "(check)"}) {
            refused(kernel, text, 2);
            KIT.due("no steps", kernel.steps(), 0);
        }
    }

    private static void defun() {
        ClauseKernel kernel = new ClauseKernel();
        for (String name : "nil t quote if equal cons implies + - < consp car cdr natp symbolp height not 5 (f) 'f"
                .split(" ")) {
            refused(kernel, "(defun " + name + " (x) x)", 2);
        }
        refused(kernel, "(defun f x x)", 2);
        refused(kernel, "(defun f (x . y) x)", 2);
        refused(kernel, "(defun f (x x) x)", 2);
        refused(kernel, "(defun f (x nil) x)", 2);
        refused(kernel, "(defun f (x t) x)", 2);
        refused(kernel, "(defun f (x 5) x)", 2);
        refused(kernel, "(defun f ((x)) 5)", 2);
        refused(kernel, "(defun f (a b c d e f g) a)", 2);
        refused(kernel, "(defun f (x) y)", 2);
        refused(kernel, "(defun f (x) (cons x y))", 2);
        refused(kernel, "(defun f (x) (g x))", 2);
        refused(kernel, "(defun f (x) (f x x))", 2);
        refused(kernel, "(defun f (x) (f . x))", 2);
        KIT.due("nothing was taken", kernel.count(0), 0);
        refused(kernel, "(defun f (a b c d e f) (f a b c d e f))", 0);
        refused(kernel, "(defun g () 5)", 0);
        refused(kernel, "(defun h () (g))", 0);
        refused(kernel, "(defun taut (quote) (cons quote 'quote))", 0);
        refused(kernel, "(defun defun (if) (if if if nil))", 0);
        refused(kernel, "(defun f (x) x)", 3);
        refused(kernel, "(defun f (x) (f x))", 3);
        refused(kernel, "(defun f (x) (f x x))", 2);
        refused(kernel, "(defun f (x) (f x x x x x x))", 2);
        refused(kernel, "(defun f (x) (h x))", 2);
        KIT.due("count(0)", kernel.count(0), 5);
        KIT.clause(kernel, "(same (f 1 2 3 4 5 6))", "((equal (f 1 2 3 4 5 6) (f 1 2 3 4 5 6)))");
        KIT.wrong(kernel, "(same (f 1))", "(same (f 1))");
    }

    private static void bodies() {
        ClauseKernel kernel = new ClauseKernel();
        refused(kernel, "(defun f (x) (if (f x) 1 2))", 2);
        refused(kernel, "(defun f (x) (if x (if (consp (f x)) 1 2) 3))", 2);
        refused(kernel, "(defun f (x) (if x 3 (if (consp (f x)) 1 2)))", 2);
        refused(kernel, "(defun f (x) (if (if (f x) 1 2) 1 2))", 2);
        refused(kernel, "(defun f (x) (f (f x)))", 2);
        refused(kernel, "(defun f (x) (if x (cons 1 (f (car (f x)))) nil))", 2);
        refused(kernel, "(defun f (x) (if x 1 (f (if (f x) 1 2))))", 2);
        refused(kernel, "(defun f (x) (cons 1 (if (f x) (f (car x)) 2)))", 0);
        refused(kernel, "(defun g (x) (if (f (f x)) (g (f (f x))) (cons (g x) (g (car x)))))", 0);
        refused(kernel, "(defun h (x) (not (if (h x) 1 2)))", 0);
        refused(kernel, "(defun f (x) (if (f x) 1 2))", 2);
        refused(kernel, "(defun f (x) (if x 1 2))", 3);
    }

    private static void check() {
        ClauseKernel kernel = new ClauseKernel();
        for (String name : new String[] {"nil", "t", "quote", "if", "not", "5", "(a)"}) {
            refused(kernel, "(check " + name + " (equal x x) (same x))", 2);
        }
        refused(kernel, "(check a (equal x) (same x))", 2);
        refused(kernel, "(check a (nope x) nonsense)", 2);
        KIT.answers(kernel, "(check a (equal x x) nonsense)", 7, "nonsense");
        KIT.answers(kernel, "(check a (equal x x) (same y))", 7, "((equal y y))");
        KIT.answers(kernel, "(check a (equal x x) (weak (x) (same x)))", 7, "((equal x x) x)");
        KIT.answers(kernel, "(check a (equal x x) (swap (taut x)))", 7, "(swap (taut x))");
        KIT.due("nothing was taken", kernel.count(1), 0);
        refused(kernel, "(check a (equal x x) (same x))", 0);
        refused(kernel, "(check a (equal x x) nonsense)", 3);
        refused(kernel, "(check a (equal x) nonsense)", 2);
        refused(kernel, "(check b (equal 5 '5) (same '5))", 0);
        KIT.answers(kernel, "(check c (equal y y) (thm a))", 7, "((equal x x))");
    }

    private static void undo() {
        ClauseKernel kernel = KIT.told("(defun f (x) x)", "(check a (equal x x) (same x))", "(defun g (y) (f y))");
        refused(kernel, "(check f (equal (f x) x) (def f))", 0);
        refused(kernel, "(defun a (x) x)", 0);
        KIT.due("functions and theorems have names of their own", kernel.count(0) * 10 + kernel.count(1), 32);
        refused(kernel, "(undo)", 0);
        KIT.wrong(kernel, "(def a)", "(def a)");
        refused(kernel, "(undo)", 0);
        KIT.wrong(kernel, "(thm f)", "(thm f)");
        KIT.clause(kernel, "(thm a)", "((equal x x))");
        refused(kernel, "(undo)", 0);
        KIT.wrong(kernel, "(same (g x))", "(same (g x))");
        refused(kernel, "(defun g (x y) (cons x y))", 0);
        KIT.clause(kernel, "(def g)", "((equal (g x y) (cons x y)))");
        refused(kernel, "(undo)", 0);
        refused(kernel, "(undo)", 0);
        refused(kernel, "(undo)", 0);
        refused(kernel, "(undo)", 3);
        KIT.due("all is gone", kernel.count(0) + kernel.count(1), 0);
        refused(kernel, "(defun f (x) 'b)", 0);
        KIT.clause(kernel, "(def f)", "((equal (f x) 'b))");
    }

    private static void room() {
        ClauseKernel kernel = new ClauseKernel();
        for (int k = 0; k < 40; k++) {
            refused(kernel, "(defun f" + k + " (x) (cons x " + k + "))", 0);
        }
        refused(kernel, "(defun g (x) x)", 8);
        refused(kernel, "(defun f0 (x) x)", 3);
        refused(kernel, "(defun f0 (x) y)", 2);
        refused(kernel, "(defun g (x) (g x))", 8);
        for (int k = 0; k < 60; k++) {
            refused(kernel, "(check m" + k + " (equal " + k + " " + k + ") (same " + k + "))", 0);
        }
        refused(kernel, "(check n (equal x x) (same x))", 8);
        refused(kernel, "(check n (equal x x) nonsense)", 8);
        refused(kernel, "(check m59 (equal x x) nonsense)", 3);
        refused(kernel, "(check m59 (equal x y z) nonsense)", 2);
        KIT.due("count(0)", kernel.count(0), 40);
        KIT.due("count(1)", kernel.count(1), 60);
        KIT.clause(kernel, "(thm m17)", "((equal 17 17))");
        KIT.clause(kernel, "(def f39)", "((equal (f39 x) (cons x 39)))");
        refused(kernel, "(undo)", 0);
        refused(kernel, "(check n (equal x x) (same x))", 0);
        refused(kernel, "(defun g (x) x)", 8);
        KIT.due("tell(99)", kernel.tell(99), 23);
    }

    private static void terms() {
        ClauseKernel kernel = new ClauseKernel();
        String full = Kit.wide(120, "x");
        String over = Kit.wide(121, "x");
        refused(kernel, "(defun f (x) " + over + ")", 2);
        refused(kernel, "(defun f (x) " + full + ")", 0);
        refused(kernel, "(check a " + over + " nonsense)", 2);
        KIT.answers(kernel, "(check a " + full + " nonsense)", 7, "nonsense");
        KIT.wrong(kernel, "(weak (" + over + ") (same x))", "(weak (" + over + ") (same x))");
        KIT.clause(kernel, "(weak (" + full + ") (same x))", "((equal x x) " + full + ")");
        KIT.clause(kernel, "(taut '(a (b) . c))", "('(a (b) . c) nil)");
        KIT.clause(kernel, "(taut 'nil)", "(nil t)");
        KIT.clause(kernel, "(taut 't)", "(t nil)");
        KIT.clause(kernel, "(taut '12)", "(12 nil)");
        KIT.clause(kernel, "(taut 't2)", "('t2 nil)");
        KIT.clause(kernel, "(taut ''12)", "(''12 nil)");
        KIT.clause(kernel, "(taut (not (not x)))", "((not (not x)) (not x))");
        KIT.clause(kernel, "(taut if)", "(if (not if))");
        KIT.clause(kernel, "(taut quote)", "'(not quote)");
        KIT.clause(kernel, "(weak (x) (taut quote))", "(quote (not quote) x)");
        KIT.clause(kernel, "(same '(quote x y))", "((equal '(quote x y) '(quote x y)))");
        for (String term : new String[] {"(quote)", "(quote x y)", "(quote . x)", "(car)", "(car x y)", "(car . x)",
            "(car x . y)", "((car) x)", "(5 x)", "(nope)", "(x y)", "(nil)", "(t x)", "(if x y)", "(cons x (car))",
            "(not 'x 'y)"}) {
            String proof = "(taut " + (term.equals("(quote)") ? "(quote)" : term) + ")";
            KIT.wrong(kernel, proof, proof);
        }
    }
}
