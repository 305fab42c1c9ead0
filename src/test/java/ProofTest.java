/** Promise 5: the rules of PROOFS but induct, what each asks, and in which order. */
public final class ProofTest {
    private static final Kit KIT = new Kit("ProofTest");

    public static void main(String[] args) {
        axioms();
        values();
        named();
        weak();
        cut();
        inst();
        swap();
        put();
        order();
        emptyClause();
        KIT.end();
    }

    private static void itself(ClauseKernel kernel, String proof) {
        KIT.wrong(kernel, proof, proof);
    }

    private static void axioms() {
        ClauseKernel kernel = new ClauseKernel();
        KIT.clause(kernel, "(taut (car x))", "((car x) (not (car x)))");
        KIT.clause(kernel, "(taut (not x))", "((not x) x)");
        KIT.clause(kernel, "(same (cons x 1))", "((equal (cons x 1) (cons x 1)))");
        KIT.clause(kernel, "(first x '(y))", "((equal (car (cons x '(y))) x))");
        KIT.clause(kernel, "(second x '(y))", "((equal (cdr (cons x '(y))) '(y)))");
        KIT.clause(kernel, "(pair x '7)", "((consp (cons x 7)))");
        KIT.clause(kernel, "(yes x y z)", "((not x) (equal (if x y z) y))");
        KIT.clause(kernel, "(no x y z)", "(x (equal (if x y z) z))");
        KIT.clause(kernel, "(yes (not x) y z)", "(x (equal (if (not x) y z) y))");
        KIT.clause(kernel, "(yes nil y z)", "(t (equal (if nil y z) y))");
        KIT.clause(kernel, "(yes 'k y z)", "(nil (equal (if 'k y z) y))");
        KIT.clause(kernel, "(no nil y z)", "(nil (equal (if nil y z) z))");
        for (String proof : new String[] {"x", "5", "nil", "'x", "(x)", "(nope x)", "(taut)", "(taut x y)",
            "(taut . x)", "(taut x . y)", "(same)", "(same x y)", "(first x)", "(first x y z)", "(second x)",
            "(pair x)", "(pair x y z)", "(yes x y)", "(no x y)", "(yes x y z x)", "(no x y z x)", "((taut) x)",
            "(first x (nope))", "(first (nope) x)", "(no x y (nope))", "(yes x (nope) z)", "(5 x)",
            "(equal x x)", "(check x)", "(value)", "(def)", "(thm)", "(weak)", "(cut)", "(inst)", "(swap)", "(put)",
            "(induct)", "(same x . '(y))"}) {
            KIT.due(proof, Kit.say(kernel, "(clause " + proof + ")"), 7);
            KIT.due("a step was made for " + proof, kernel.steps(), 1);
        }
    }

    private static void value(ClauseKernel kernel, String call, String value) {
        KIT.clause(kernel, "(value " + call + ")", "((equal " + call + " " + value + "))");
    }

    private static void values() {
        ClauseKernel kernel = new ClauseKernel();
        value(kernel, "(if nil 1 2)", "2");
        value(kernel, "(if 0 1 2)", "1");
        value(kernel, "(if 'a '(b) 2)", "'(b)");
        value(kernel, "(equal '(a . 1) '(a . 1))", "t");
        value(kernel, "(equal '(a . 1) '(a . 2))", "nil");
        value(kernel, "(equal 1 'a)", "nil");
        value(kernel, "(cons 1 2)", "'(1 . 2)");
        value(kernel, "(cons 'quote '(x))", "''x");
        value(kernel, "(cons nil nil)", "'(nil)");
        value(kernel, "(implies nil nil)", "t");
        value(kernel, "(implies nil t)", "t");
        value(kernel, "(implies 5 nil)", "nil");
        value(kernel, "(implies 5 'x)", "t");
        value(kernel, "(+ 2 3)", "5");
        value(kernel, "(+ 2 'x)", "2");
        value(kernel, "(+ '(1) nil)", "0");
        value(kernel, "(+ 4611686018427387902 1)", "4611686018427387903");
        value(kernel, "(+ 0 4611686018427387903)", "4611686018427387903");
        itself(kernel, "(value (+ 4611686018427387903 1))");
        itself(kernel, "(value (+ 4611686018427387903 4611686018427387903))");
        value(kernel, "(- 5 3)", "2");
        value(kernel, "(- 3 5)", "0");
        value(kernel, "(- t 5)", "0");
        value(kernel, "(- 5 'a)", "5");
        value(kernel, "(- 0 4611686018427387903)", "0");
        value(kernel, "(- 4611686018427387903 1)", "4611686018427387902");
        value(kernel, "(< 1 2)", "t");
        value(kernel, "(< 2 2)", "nil");
        value(kernel, "(< 'a 1)", "t");
        value(kernel, "(< 0 '(9))", "nil");
        value(kernel, "(consp '(a))", "t");
        value(kernel, "(consp nil)", "nil");
        value(kernel, "(car '(a . b))", "'a");
        value(kernel, "(car '(5))", "5");
        value(kernel, "(car 5)", "nil");
        value(kernel, "(cdr '(a . b))", "'b");
        value(kernel, "(cdr '(a))", "nil");
        value(kernel, "(cdr 'a)", "nil");
        value(kernel, "(natp 0)", "t");
        value(kernel, "(natp nil)", "nil");
        value(kernel, "(natp '(1))", "nil");
        value(kernel, "(symbolp nil)", "t");
        value(kernel, "(symbolp 'a)", "t");
        value(kernel, "(symbolp 1)", "nil");
        value(kernel, "(symbolp '(a))", "nil");
        value(kernel, "(height 'a)", "0");
        value(kernel, "(height '(a))", "1");
        value(kernel, "(height '(a b c))", "3");
        value(kernel, "(height '((((a)))))", "4");
        value(kernel, "(height '(((a)) . b))", "3");
        value(kernel, "(not nil)", "t");
        value(kernel, "(not 0)", "nil");
        KIT.answers(kernel, "(clause (value (+ '2 '3)))", 0, "((equal (+ 2 3) 5))");
        for (String term : new String[] {"5", "x", "nil", "'(car x)", "(car x)", "(car (car nil))", "(+ 1 x)",
            "(if t 1 x)", "(nope 1)", "(car)", "(f 1)"}) {
            itself(kernel, "(value " + term + ")");
        }
        ClauseKernel other = KIT.told("(defun f (x) x)", "(defun g () 5)");
        itself(other, "(value (f 1))");
        itself(other, "(value (g))");
    }

    private static void named() {
        ClauseKernel kernel = KIT.told("(defun f (x y) (cons y '5))", "(defun g () (g))",
                "(check a (equal (f x y) (cons y 5)) (def f))");
        KIT.clause(kernel, "(def f)", "((equal (f x y) (cons y 5)))");
        KIT.clause(kernel, "(def g)", "((equal (g) (g)))");
        KIT.clause(kernel, "(thm a)", "((equal (f x y) (cons y 5)))");
        for (String proof : new String[] {"(def a)", "(def car)", "(def nil)", "(def 5)", "(def (f))", "(def f f)",
            "(def f . f)", "(thm f)", "(thm b)", "(thm 5)", "(thm nil)", "(thm (a))", "(thm a a)", "(def h)"}) {
            itself(kernel, proof);
        }
    }

    private static void weak() {
        ClauseKernel kernel = new ClauseKernel();
        KIT.clause(kernel, "(weak () (same x))", "((equal x x))");
        KIT.clause(kernel, "(weak (x (equal x x) y x 5 '5) (same x))", "((equal x x) x y 5)");
        KIT.clause(kernel, "(weak 'x (same x))", "((equal x x) quote x)");
        itself(kernel, "(weak x (same x))");
        itself(kernel, "(weak (x . y) (same x))");
        itself(kernel, "(weak (x (nope)) (same x))");
        itself(kernel, "(weak 5 (same x))");
        itself(kernel, "(weak (x))");
        itself(kernel, "(weak (x) (same x) (same x))");
        itself(kernel, "(weak (x (nope)) nonsense)");
        KIT.wrong(kernel, "(weak (x) nonsense)", "nonsense");
    }

    private static void cut() {
        ClauseKernel kernel = new ClauseKernel();
        KIT.clause(kernel, "(cut x (taut x) (taut x))", "((not x) x)");
        KIT.clause(kernel, "(cut x (no x y z) (yes x y z))", "((equal (if x y z) z) (equal (if x y z) y))");
        KIT.clause(kernel, "(cut (not x) (yes x y z) (no x y z))", "((equal (if x y z) y) (equal (if x y z) z))");
        KIT.clause(kernel, "(cut x (no x 1 1) (yes x 1 1))", "((equal (if x 1 1) 1))");
        KIT.clause(kernel, "(cut y (weak (y x) (same x)) (weak ((not y) z x) (same y)))",
                "((equal x x) x (equal y y) z)");
        KIT.clause(kernel, "(cut 5 (taut 5) (weak (nil) (same x)))", "(nil (equal x x))");
        KIT.clause(kernel, "(cut nil (taut 5) (weak (t) (same x)))", "(5 (equal x x))");
        KIT.clause(kernel, "(cut '5 (taut 5) (taut 5))", "(nil 5)");
        itself(kernel, "(cut y (taut x) (taut x))");
        itself(kernel, "(cut x (taut x) (taut y))");
        itself(kernel, "(cut x (taut x) (same x))");
        itself(kernel, "(cut (nope) nonsense nonsense)");
        itself(kernel, "(cut x (taut x))");
        itself(kernel, "(cut x (taut x) (taut x) (taut x))");
        KIT.wrong(kernel, "(cut y (taut x) (swap (taut x)))", "(swap (taut x))");
        KIT.wrong(kernel, "(cut y nonsense other)", "nonsense");
    }

    private static void inst() {
        ClauseKernel kernel = KIT.told("(defun f (x y) (cons y x))");
        KIT.clause(kernel, "(inst (taut x))", "(x (not x))");
        KIT.clause(kernel, "(inst (def f) (x y) (y x))", "((equal (f y x) (cons x y)))");
        KIT.clause(kernel, "(inst (taut (cons x 'x)) (x nil))", "((cons nil 'x) (not (cons nil 'x)))");
        KIT.clause(kernel, "(inst (taut x) (x nil))", "(nil (not nil))");
        KIT.clause(kernel, "(inst (taut x) (x (not y)))", "((not y) (not (not y)))");
        KIT.clause(kernel, "(inst (weak (x y z) (taut u)) (x y) (z u) (w x))", "(u (not u) y)");
        KIT.clause(kernel, "(inst (taut quote) 'x)", "(x (not x))");
        KIT.clause(kernel, "(inst (taut car) (car (car car)))", "((car car) (not (car car)))");
        itself(kernel, "(inst (taut x) x)");
        itself(kernel, "(inst (taut x) (x))");
        itself(kernel, "(inst (taut x) (x y z))");
        itself(kernel, "(inst (taut x) (x . y))");
        itself(kernel, "(inst (taut x) (5 y))");
        itself(kernel, "(inst (taut x) (nil y))");
        itself(kernel, "(inst (taut x) (t y))");
        itself(kernel, "(inst (taut x) ((x) y))");
        itself(kernel, "(inst (taut x) (x y) (x y))");
        itself(kernel, "(inst (taut x) (x (nope)))");
        itself(kernel, "(inst nonsense (x y) (x z))");
        itself(kernel, "(inst (taut x) (x y) . z)");
        KIT.wrong(kernel, "(inst nonsense (x y))", "nonsense");
        KIT.wrong(kernel, "(inst (x y))", "(x y)");
    }

    private static void swap() {
        ClauseKernel kernel = new ClauseKernel();
        KIT.clause(kernel, "(swap (first x y))", "((equal x (car (cons x y))))");
        KIT.clause(kernel, "(swap (weak (x y) (first x y)))", "((equal x (car (cons x y))) x y)");
        KIT.clause(kernel, "(swap (weak ((equal 3 (+ 1 2)) x) (value (+ 1 2))))", "((equal 3 (+ 1 2)) x)");
        itself(kernel, "(swap (taut x))");
        itself(kernel, "(swap (yes x y z))");
        itself(kernel, "(swap (pair x y))");
        itself(kernel, "(swap (taut equal))");
        itself(kernel, "(swap (taut '(equal x y)))");
        KIT.clause(kernel, "(swap (taut (equal x y)))", "((equal y x) (not (equal x y)))");
        KIT.wrong(kernel, "(swap nonsense)", "nonsense");
        itself(kernel, "(swap (same x) (same x))");
    }

    private static void put() {
        ClauseKernel kernel = KIT.told("(defun f (x) (cons x x))");
        KIT.clause(kernel, "(put (def f) (taut (car (f x))))", "((car (cons x x)) (not (car (cons x x))))");
        KIT.clause(kernel, "(put (def f) (taut (car (f y))))", "((car (f y)) (not (car (f y))))");
        KIT.clause(kernel, "(put (taut (equal x y)) (taut (cons x 'x)))",
                "((cons y 'x) (not (cons y 'x)) (not (equal x y)))");
        KIT.clause(kernel, "(put (taut (equal x (cons x x))) (weak (x) (pair x y)))",
                "((consp (cons (cons x x) y)) (cons x x) (not (equal x (cons x x))))");
        KIT.clause(kernel, "(put (weak (y z) (taut (equal x y))) (weak (x y) (taut z)))",
                "(z (not z) y (not (equal x y)))");
        KIT.clause(kernel, "(put (taut (equal 5 x)) (taut (+ 5 '(5))))",
                "((+ x '(5)) (not (+ x '(5))) (not (equal 5 x)))");
        KIT.clause(kernel, "(put (taut (equal '(a) x)) (taut (cons '(a) (cons 'a '((a))))))",
                "((cons x (cons 'a '((a)))) (not (cons x (cons 'a '((a))))) (not (equal '(a) x)))");
        KIT.clause(kernel, "(put (taut (equal (not x) y)) (taut (not x)))", "(y x (not (equal (not x) y)))");
        itself(kernel, "(put (taut x) (taut x))");
        itself(kernel, "(put (same x))");
        itself(kernel, "(put (same x) (same x) (same x))");
        KIT.wrong(kernel, "(put (taut x) nonsense)", "nonsense");
        KIT.wrong(kernel, "(put nonsense other)", "nonsense");
    }

    private static void order() {
        ClauseKernel kernel = new ClauseKernel();
        KIT.wrong(kernel, "(weak (x) (swap (put (same x) (cut x (same y) (taut x)))))", "(cut x (same y) (taut x))");
        KIT.due("steps, its parts' among them", kernel.steps(), 7);
        KIT.wrong(kernel, "(cut (nope) (swap (taut x)) nonsense)", "(cut (nope) (swap (taut x)) nonsense)");
        KIT.due("the form is asked ahead of the parts", kernel.steps(), 1);
        KIT.wrong(kernel, "(put (taut '5) '5)", "'5");
        KIT.wrong(kernel, "(taut '5 'nil (quote 007))", "(taut '5 'nil '7)");
    }

    /** A function that has no values by its body makes anything a theorem, by the empty clause. */
    private static void emptyClause() {
        ClauseKernel kernel = KIT.told("(defun f () (not (f)))");
        String yes = "(put (swap (def f)) (taut (f)))";
        String no = "(put (def f) " + yes + ")";
        String empty = "(cut (f) " + yes + " " + no + ")";
        KIT.clause(kernel, yes, "((f))");
        KIT.clause(kernel, no, "((not (f)))");
        KIT.clause(kernel, empty, "nil");
        KIT.due("count(2)", kernel.count(2), 0);
        KIT.clause(kernel, "(weak (x) " + empty + ")", "(x)");
        KIT.clause(kernel, "(inst " + empty + " (x y))", "nil");
        KIT.clause(kernel, "(put (same x) " + empty + ")", "nil");
        itself(kernel, "(swap " + empty + ")");
        itself(kernel, "(put " + empty + " (same x))");
        itself(kernel, "(cut x " + empty + " (taut x))");
        KIT.answers(kernel, "(check a nil " + empty + ")", 0, "");
        KIT.answers(kernel, "(check b x (weak (x) (thm a)))", 7, "(nil x)");
        KIT.answers(kernel, "(check b x (weak (x) " + empty + "))", 0, "");
    }
}
