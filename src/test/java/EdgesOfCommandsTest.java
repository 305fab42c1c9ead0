/** 'Terms' 4, sentence by sentence: each boundary of the commands and their ANSWERS, and one beyond it. */
public final class EdgesOfCommandsTest {
    private static final Kit KIT = new Kit("EdgesOfCommandsTest");

    public static void main(String[] args) {
        oneOfThese();
        names();
        order();
        variables();
        bodies();
        fullOfFunctions();
        paths();
        rulers();
        check();
        fullOfTheorems();
        clause();
        undo();
        induction();
        inductionOfMany();
        inductionOfCalls();
        KIT.end();
    }

    private static void answer(ClauseKernel kernel, String text, int answer) {
        KIT.answers(kernel, text, answer, "");
    }

    private static void oneOfThese() {
        KIT.sentence("run() takes a TEXT, one list that is one of these; 2 it is none of these");
        ClauseKernel kernel = new ClauseKernel();
        for (String text : new String[] {"nil", "t", "7", "undo", "'undo", "(undo undo)", "(undo nil)", "(undo . undo)",
            "((undo))", "(undo2)", "(und)", "(clause)", "(clause (same x) nil)", "(clause (same x) . nope)", "(clauses (same x))",
            "(check)", "(check a)", "(check a (equal x x))", "(check a (equal x x) (same x) nil)", "(defun)", "(defun f)",
            "(defun f (x))", "(defun f (x) x nil)", "(defun f (x) . x)", "(theorem a (equal x x))", "(same x)", "(7)", "(nil)"}) {
            answer(kernel, text, 2);
            KIT.due("no STEP", kernel.steps(), 0);
        }
        answer(kernel, "(undo)", 3);
        KIT.clause(kernel, "(same x)", "((equal x x))");
        answer(kernel, "(check a (equal x x) (same x))", 0);
        answer(kernel, "(defun f (x) x)", 0);
    }

    private static void names() {
        KIT.sentence("f and n are symbols that are not RESERVED");
        ClauseKernel kernel = new ClauseKernel();
        for (String name : new String[] {"7", "0", "nil", "t", "()", "(f)", "'f", "quote", "not", "if"}) {
            answer(kernel, "(defun " + name + " (x) x)", 2);
            answer(kernel, "(check " + name + " (equal x x) (same x))", 2);
        }
        for (String name : new String[] {"f", "7a", "abcdefghijk", "___________", "nots"}) {
            answer(kernel, "(defun " + name + " (x) x)", 0);
            answer(kernel, "(check " + name + " (equal x x) (same x))", 0);
        }
    }

    private static void order() {
        KIT.sentence("asked in this order, 1, 2, 3, 8");
        ClauseKernel kernel = full();
        answer(kernel, "(defun f0 (x y)", 1);
        answer(kernel, "(defun f0 (x) y", 1);
        answer(kernel, "(defun f0 (x) y)", 2);
        answer(kernel, "(defun f0 (x) (if (f0 x) 1 2))", 2);
        answer(kernel, "(defun f0 (x) x)", 3);
        answer(kernel, "(defun new (x) y)", 2);
        answer(kernel, "(defun new (x) x)", 8);
        answer(kernel, "(check t0 (equal x) nonsense", 1);
        answer(kernel, "(check t0 (equal x) nonsense)", 2);
        answer(kernel, "(check t0 (equal x x) nonsense)", 3);
        answer(kernel, "(check new (equal x) nonsense)", 2);
        answer(kernel, "(check new (equal x x) nonsense)", 8);
        KIT.due("no STEP", kernel.steps(), 0);
        answer(kernel, "(check new (equal x x) (same " + Kit.wide(60, "x") + "))", 8);
        KIT.due("no FAULT OF WORK", kernel.fault(2), 0);
        answer(kernel, "(undo nil)", 2);
        KIT.wrong(kernel, "nonsense", "nonsense");
        KIT.tooBig(kernel, "(same " + Kit.wide(60, "x") + ")");
        KIT.due("nothing was taken", kernel.count(0) + kernel.count(1), 100);
    }

    /** A kernel that has as many functions and theorems as there can be. */
    private static ClauseKernel full() {
        ClauseKernel kernel = new ClauseKernel();
        for (int k = 0; k < 40; k++) {
            answer(kernel, "(defun f" + k + " (x) " + k + ")", 0);
        }
        for (int k = 0; k < 60; k++) {
            answer(kernel, "(check t" + k + " (equal " + k + " " + k + ") (same " + k + "))", 0);
        }
        return kernel;
    }

    private static void variables() {
        KIT.sentence("(defun f (x ..) T): the x different variables, at most 6");
        ClauseKernel kernel = new ClauseKernel();
        answer(kernel, "(defun seven (a b c d e f g) a)", 2);
        answer(kernel, "(defun six (a b c d e f) f)", 0);
        answer(kernel, "(defun one (a) a)", 0);
        answer(kernel, "(defun none () 7)", 0);
        KIT.clause(kernel, "(def six)", "((equal (six a b c d e f) f))");
        KIT.clause(kernel, "(def one)", "((equal (one a) a))");
        KIT.clause(kernel, "(def none)", "((equal (none) 7))");
        for (String list : new String[] {"(a a)", "(a b c d e a)", "(a b c d e e)", "(a . b)", "a", "7", "t", "(nil)", "(a t)",
            "(a 7)", "(a (b))", "('a)"}) {
            answer(kernel, "(defun f " + list + " 7)", 2);
        }
        answer(kernel, "(defun f nil 7)", 0);
        answer(kernel, "(undo)", 0);
        answer(kernel, "(defun f 'a (cons quote a))", 0);
    }

    private static void bodies() {
        KIT.sentence("T with these variables alone, f being a function of so many terms in it");
        ClauseKernel kernel = new ClauseKernel();
        answer(kernel, "(defun f (x) y)", 2);
        answer(kernel, "(defun f () x)", 2);
        answer(kernel, "(defun f (x) (cons x (cons x y)))", 2);
        answer(kernel, "(defun f (x) f)", 2);
        answer(kernel, "(defun f (x) 'y)", 0);
        answer(kernel, "(undo)", 0);
        answer(kernel, "(defun f (f) f)", 0);
        answer(kernel, "(undo)", 0);
        answer(kernel, "(defun f (x y) 7)", 0);
        answer(kernel, "(undo)", 0);
        for (int takes = 0; takes <= 6; takes++) {
            String parameters = "a b c d e f".substring(0, Math.max(2 * takes - 1, 0));
            answer(kernel, "(defun f (" + parameters + ") (f" + Kit.times(takes + 1, " 7") + "))", 2);
            if (takes > 0) {
                answer(kernel, "(defun f (" + parameters + ") (f" + Kit.times(takes - 1, " 7") + "))", 2);
            }
            answer(kernel, "(defun f (" + parameters + ") (f" + Kit.times(takes, " 7") + "))", 0);
            answer(kernel, "(undo)", 0);
        }
        answer(kernel, "(defun f (x) (g x))", 2);
        answer(kernel, "(defun g (x) (f x))", 2);
        KIT.due("nothing is DEFINED", kernel.count(0), 0);
    }

    private static void fullOfFunctions() {
        KIT.sentence("f is DEFINED already: 3; 40 are: 8");
        ClauseKernel kernel = new ClauseKernel();
        answer(kernel, "(check f0 (equal x x) (same x))", 0);
        for (int k = 0; k < 40; k++) {
            KIT.due("count(0)", kernel.count(0), k);
            answer(kernel, "(defun f" + k + " (x) (if x (f" + k + " x) " + k + "))", 0);
            answer(kernel, "(defun f" + k + " (x) x)", 3);
        }
        KIT.due("count(0)", kernel.count(0), 40);
        answer(kernel, "(defun f40 (x) x)", 8);
        answer(kernel, "(defun f0 (x) x)", 3);
        answer(kernel, "(defun f39 (x) x)", 3);
        KIT.due("count(0)", kernel.count(0), 40);
        KIT.clause(kernel, "(def f0)", "((equal (f0 x) (if x (f0 x) 0)))");
        KIT.clause(kernel, "(def f39)", "((equal (f39 x) (if x (f39 x) 39)))");
        KIT.itself(kernel, "(def f40)");
        answer(kernel, "(check one (equal x x) (same x))", 0);
        answer(kernel, "(undo)", 0);
        answer(kernel, "(undo)", 0);
        KIT.itself(kernel, "(def f39)");
        answer(kernel, "(defun f40 (x) x)", 0);
        answer(kernel, "(defun f39 (x) x)", 8);
    }

    private static void paths() {
        KIT.sentence("The PATHS of T: from T through the second and third terms of calls of if to all terms that are no such call");
        ClauseKernel kernel = new ClauseKernel();
        parts(kernel, "(f x)", 1);
        parts(kernel, "(cons (if x (f x) (f x)) (if x 1 2))", 1);
        parts(kernel, "(if x (f x) 1)", 2);
        parts(kernel, "(if (if x 1 2) (f x) 1)", 2);
        parts(kernel, "(if x (if x (f x) 2) 1)", 3);
        parts(kernel, "(if x 1 (if x (f x) 2))", 3);
        parts(kernel, "(if x (if x 1 2) (if x (f x) 2))", 4);
        parts(kernel, "(if x (cons 1 (if x 1 2)) (f (if x 1 2)))", 2);
        // A SIZE of 119: thirty-nine calls of if, a call of f, and the others' leaves.
        String most = "(f x)";
        for (int k = 0; k < 39; k++) {
            most = k % 2 == 0 ? "(if x " + most + " 1)" : "(if x 2 " + most + ")";
        }
        KIT.unread(kernel, "(defun f (x) " + most + ")", 4, ("(defun f (x) " + most).lastIndexOf('('));
        String half = "(f x)";
        String other = "1";
        for (int k = 0; k < 19; k++) {
            half = "(if x " + half + " 1)";
            other = "(if x 1 " + other + ")";
        }
        parts(kernel, "(if x " + half + " " + other + ")", 40);
    }

    /** That a body has as many PATHS as an induct by it must have parts. */
    private static void parts(ClauseKernel kernel, String body, int paths) {
        answer(kernel, "(defun f (x) " + body + ")", 0);
        String front = "(induct (equal y y) (f x)";
        KIT.clause(kernel, front + Kit.times(paths, " (same y)") + ")", "((equal y y))");
        KIT.itself(kernel, front + Kit.times(paths - 1, " (same y)") + ")");
        KIT.itself(kernel, front + Kit.times(paths + 1, " (same y)") + ")");
        answer(kernel, "(undo)", 0);
    }

    private static void rulers() {
        KIT.sentence("No RULER has a call of f, nor have the terms of a call of f (else 2)");
        ClauseKernel kernel = new ClauseKernel();
        for (String body : new String[] {"(if (f x) 1 2)", "(if (not (f x)) 1 2)", "(if x (if (f x) 1 2) 3)",
            "(if x 1 (if (f x) 2 3))", "(if x 1 (if x 2 (if (car (f x)) 3 4)))", "(f (f x))", "(f (car (f x)))",
            "(cons 1 (f (f x)))", "(if x (f (if (f x) 1 2)) 3)", "(if (if (f x) 1 2) 3 4)", "(if (cons x (if 1 (f x) 2)) 3 4)",
            "(cons (f x) (f (f 1)))"}) {
            answer(kernel, "(defun f (x) " + body + ")", 2);
        }
        for (String body : new String[] {"(f x)", "(if x (f x) (f (car x)))", "(cons (f x) (f x))", "(cons 1 (if (f x) 2 3))",
            "(not (if (f x) (f 1) (f 2)))", "(f (if x 1 2))", "(if (if x 1 2) (f x) 3)", "(if x '(f (f x)) 2)"}) {
            answer(kernel, "(defun f (x) " + body + ")", 0);
            answer(kernel, "(undo)", 0);
        }
        answer(kernel, "(defun g (x) x)", 0);
        answer(kernel, "(defun f (x) (if (g (g x)) (f (g (g x))) (g (f x))))", 0);
    }

    private static void check() {
        KIT.sentence("(check n F P): n names a theorem already: 3");
        ClauseKernel kernel = KIT.told("(defun a (x) x)", Kit.BAD);
        answer(kernel, "(check a (equal x x) (same x))", 0);
        answer(kernel, "(check a (equal x x) (same x))", 3);
        answer(kernel, "(check a (equal y y) nonsense)", 3);
        KIT.sentence("The PROOF P must have a clause without other literals than F; else 7, OUT that clause, a list");
        KIT.answers(kernel, "(check b (equal x x) (same y))", 7, "((equal y y))");
        KIT.answers(kernel, "(check b x (taut x))", 7, "(x (not x))");
        KIT.answers(kernel, "(check b (not x) (taut x))", 7, "(x (not x))");
        KIT.answers(kernel, "(check b (equal x x) (weak (y) (same x)))", 7, "((equal x x) y)");
        KIT.answers(kernel, "(check b (equal x x) (weak ((equal x y)) (same x)))", 7, "((equal x x) (equal x y))");
        KIT.answers(kernel, "(check b (equal x y) (thm a))", 7, "((equal x x))");
        KIT.due("none was taken", kernel.count(1), 1);
        answer(kernel, "(check b (equal x x) (weak ((equal x x)) (same x)))", 0);
        answer(kernel, "(check c x " + Kit.EMPTY + ")", 0);
        KIT.due("a clause without literals has no other one", kernel.tell(4), 13);
        KIT.answers(kernel, "(check d (equal 7 7) (same '7))", 0, "");
    }

    private static void fullOfTheorems() {
        KIT.sentence("there are 60: 8");
        ClauseKernel kernel = new ClauseKernel();
        for (int k = 0; k < 60; k++) {
            KIT.due("count(1)", kernel.count(1), k);
            answer(kernel, "(check t" + k + " (equal " + k + " " + k + ") (same " + k + "))", 0);
            answer(kernel, "(check t" + k + " (equal x x) (same x))", 3);
        }
        KIT.due("count(1)", kernel.count(1), 60);
        answer(kernel, "(check t60 (equal x x) (same x))", 8);
        answer(kernel, "(check t0 (equal x x) (same x))", 3);
        answer(kernel, "(check t59 (equal x x) (same x))", 3);
        KIT.clause(kernel, "(thm t0)", "((equal 0 0))");
        KIT.clause(kernel, "(thm t59)", "((equal 59 59))");
        KIT.itself(kernel, "(thm t60)");
        answer(kernel, "(defun f (x) x)", 0);
        answer(kernel, "(check t60 (equal x x) (same x))", 8);
        answer(kernel, "(undo)", 0);
        answer(kernel, "(undo)", 0);
        KIT.itself(kernel, "(thm t59)");
        answer(kernel, "(check t60 (equal x x) (same x))", 0);
        answer(kernel, "(check t61 (equal x x) (same x))", 8);
    }

    private static void clause() {
        KIT.sentence("(clause P): OUT the clause of P; P any object");
        ClauseKernel kernel = KIT.told(Kit.BAD);
        KIT.clause(kernel, Kit.EMPTY, "nil");
        KIT.clause(kernel, "(same x)", "((equal x x))");
        KIT.clause(kernel, "(taut quote)", "'(not quote)");
        for (String object : new String[] {"nil", "t", "0", "x", "'x", "(x . y)", "(same . x)", "(same)", "(clause (same x))"}) {
            KIT.itself(kernel, object);
        }
    }

    private static void undo() {
        KIT.sentence("(undo): what was taken last, by defun or check, is gone (there is nothing: 3)");
        ClauseKernel kernel = new ClauseKernel();
        answer(kernel, "(undo)", 3);
        answer(kernel, "(defun f (x) x)", 0);
        answer(kernel, "(undo)", 0);
        answer(kernel, "(undo)", 3);
        answer(kernel, "(check f (equal x x) (same x))", 0);
        answer(kernel, "(defun f (x) x)", 0);
        answer(kernel, "(defun f (x) x)", 3);
        KIT.clause(kernel, "(same x)", "((equal x x))");
        answer(kernel, "(undo)", 0);
        KIT.itself(kernel, "(def f)");
        KIT.clause(kernel, "(thm f)", "((equal x x))");
        answer(kernel, "(undo)", 0);
        KIT.itself(kernel, "(thm f)");
        answer(kernel, "(undo)", 3);
        ClauseKernel full = full();
        for (int k = 100; k > 0; k--) {
            KIT.due("what there is", full.count(0) + full.count(1), k);
            answer(full, "(undo)", 0);
        }
        answer(full, "(undo)", 3);
        answer(full, "(defun f39 (x y) y)", 0);
        KIT.clause(full, "(def f39)", "((equal (f39 x y) y))");
    }

    private static void induction() {
        KIT.sentence("The INDUCTION of F by f, DEFINED with calls of itself, and as many different variables v as it takes");
        ClauseKernel kernel = KIT.told("(defun flat (x) (if x (car x) 1))", "(defun zero () (if nil (zero) 1))",
                "(defun one (x) (if x (one (car x)) 1))", "(defun six (a b c d e f) (if a (six b c d e f a) 1))",
                "(defun tail (x) (cons 1 (tail (car x))))");
        String two = " (same y) (same y))";
        KIT.itself(kernel, "(induct (equal y y) (flat x)" + two);
        KIT.itself(kernel, "(induct (equal y y) (nope x)" + two);
        KIT.itself(kernel, "(induct (equal y y) (if x y z)" + two);
        KIT.itself(kernel, "(induct (equal y y) (car x)" + two);
        KIT.fine(kernel, "(induct (equal y y) (zero)" + two);
        KIT.itself(kernel, "(induct (equal y y) (zero x)" + two);
        KIT.itself(kernel, "(induct (equal y y) (one)" + two);
        KIT.fine(kernel, "(induct (equal y y) (one x)" + two);
        KIT.itself(kernel, "(induct (equal y y) (one x z)" + two);
        KIT.itself(kernel, "(induct (equal y y) (six a b c d e)" + two);
        KIT.fine(kernel, "(induct (equal y y) (six a b c d e f)" + two);
        KIT.fine(kernel, "(induct (equal y y) (six f e d c b y)" + two);
        KIT.itself(kernel, "(induct (equal y y) (six a b c d e f g)" + two);
        KIT.itself(kernel, "(induct (equal y y) (six a b c d e a)" + two);
        KIT.itself(kernel, "(induct (equal y y) (six a b c d e e)" + two);
        KIT.itself(kernel, "(induct (equal y y) (one nil)" + two);
        KIT.itself(kernel, "(induct (equal y y) (one t)" + two);
        KIT.itself(kernel, "(induct (equal y y) (one 7)" + two);
        KIT.itself(kernel, "(induct (equal y y) (one . x)" + two);
        KIT.fine(kernel, "(induct (equal y y) (tail x) (same y))");
        KIT.itself(kernel, "(induct (equal y y) (tail x)" + two);
        KIT.itself(kernel, "(induct (equal y y) (tail x))");
    }

    private static void inductionOfMany() {
        KIT.sentence("a clause for each PATH: NOT each RULER, from the outermost on, NOT F2, and F: no literal beside them");
        ClauseKernel kernel = KIT.told("(defun f (x) (if (consp x) (if (not (natp x)) (f (car x)) 1) (if 'k 2 (f (cdr x)))))");
        String[] has = {"(not (consp z)) (natp z) (not (equal (cons (car z) 1) (cons (car z) 1)))",
            "(not (consp z)) (not (natp z))", "(consp z) nil", "(consp z) t (not (equal (cons (cdr z) 1) (cons (cdr z) 1)))"};
        String[] hasNot = {"(consp z)", "(natp z)", "t", "nil"};
        for (int path = 0; path < 4; path++) {
            for (String literals : new String[] {"", has[path], has[path] + " " + hasNot[path], hasNot[path], "x",
                "(not (equal (cons z 1) (cons z 1)))", "(not (consp x))"}) {
                StringBuilder proof = new StringBuilder("(induct (equal (cons z 1) (cons z 1)) (f z)");
                for (int k = 0; k < 4; k++) {
                    proof.append(k == path ? " (weak (" + literals + ") (same (cons z 1)))" : " (same (cons z 1))");
                }
                proof.append(')');
                if (literals.isEmpty() || literals.equals(has[path])) {
                    KIT.clause(kernel, proof.toString(), "((equal (cons z 1) (cons z 1)))");
                } else {
                    KIT.itself(kernel, proof.toString());
                }
            }
        }
    }

    private static void inductionOfCalls() {
        KIT.sentence("the v stand for f's parameters, and F2 is F with the call's terms (with the v in them) for the v");
        ClauseKernel kernel = KIT.told("(defun f (x y) (if x (cons (f y x) (f (car x) (cons y y))) 1))");
        String goal = "(equal (cons x (cons y z)) (cons x (cons y z)))";
        String same = "(same (cons x (cons y z)))";
        String swapped = "(not (equal (cons y (cons x z)) (cons y (cons x z))))";
        String first = "(not (equal (cons (car x) (cons (cons y y) z)) (cons (car x) (cons (cons y y) z))))";
        String other = "(not (equal (cons (cons x x) (cons (car y) z)) (cons (cons x x) (cons (car y) z))))";
        KIT.fine(kernel, "(induct " + goal + " (f x y) (weak (" + swapped + first + ") " + same + ") " + same + ")");
        KIT.itself(kernel, "(induct " + goal + " (f x y) (weak (" + other + ") " + same + ") " + same + ")");
        KIT.itself(kernel, "(induct " + goal + " (f x y) " + same + " (weak (" + swapped + ") " + same + "))");
        KIT.fine(kernel, "(induct " + goal + " (f y x) (weak (" + swapped + other + "(not y)) " + same + ") " + same + ")");
        KIT.itself(kernel, "(induct " + goal + " (f y x) (weak (" + first + ") " + same + ") " + same + ")");
        KIT.itself(kernel, "(induct " + goal + " (f y x) (weak ((not x)) " + same + ") " + same + ")");
        KIT.fine(kernel, "(induct " + goal + " (f v w) (weak ((not v) (not " + goal + ")) " + same + ") (weak (v) " + same + "))");
    }
}
