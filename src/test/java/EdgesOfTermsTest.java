/** 'Terms' 2, sentence by sentence: each boundary of terms, values, sizes and clauses, and one beyond it. */
public final class EdgesOfTermsTest {
    private static final Kit KIT = new Kit("EdgesOfTermsTest");
    private static final String MOST = "4611686018427387903";
    private static final String[] BASE = {"if 3", "equal 2", "cons 2", "implies 2", "+ 2", "- 2", "< 2", "consp 1",
        "car 1", "cdr 1", "natp 1", "symbolp 1", "height 1", "not 1"};

    public static void main(String[] args) {
        variables();
        constants();
        calls();
        reserved();
        values();
        heights();
        sums();
        sizesOfTexts();
        sizesOfConstants();
        sizesOfAxioms();
        sizesOfMade();
        nots();
        sizesOfNots();
        different();
        manyLiterals();
        sizesTogether();
        sizesOfInductions();
        KIT.end();
    }

    private static String x(int size) {
        return Kit.wide(size, "x");
    }

    private static void variables() {
        KIT.sentence("A VARIABLE is a symbol but nil and t");
        ClauseKernel kernel = new ClauseKernel();
        for (String variable : new String[] {"x", "nill", "tt", "quote", "if", "car", "-", "1a", "abcdefghijk"}) {
            KIT.clause(kernel, "(inst (weak (" + variable + ") (same y)) (" + variable + " 7))", "((equal y y) 7)");
        }
        for (String other : new String[] {"nil", "t", "0", "7", "()", "(x)", "'x", "(car x)"}) {
            KIT.itself(kernel, "(inst (same y) (" + (other.equals("()") ? "nil" : other) + " 7))");
            KIT.answers(kernel, "(defun f (" + other + ") 7)", 2, "");
        }
    }

    private static void constants() {
        KIT.sentence("A CONSTANT is a natural, nil, t, or a list (quote X); naturals, nil, t with quote are the same");
        ClauseKernel kernel = new ClauseKernel();
        for (String bare : new String[] {"0", MOST, "nil", "t"}) {
            KIT.clause(kernel, "(weak (" + bare + ") (taut '" + bare + "))", "(" + bare + (bare.equals("nil") ? " t)" : " nil)"));
        }
        for (String quoted : new String[] {"'x", "'tt", "'nill", "'(nil)", "'(0)", "''0", "''nil", "'quote", "'(a . 0)"}) {
            KIT.clause(kernel, "(taut " + quoted + ")", "(" + quoted + " nil)");
        }
        KIT.clause(kernel, "(taut '())", "(nil t)");
        for (String none : new String[] {"(quote)", "(quote x y)", "(quote . x)", "(quote x . y)", "(nil)", "(t)", "(0)"}) {
            KIT.itself(kernel, "(taut " + none + ")");
        }
    }

    private static String call(String name, int terms) {
        return "(" + name + Kit.times(terms, " x") + ")";
    }

    private static void calls() {
        KIT.sentence("A CALL is a list of a FUNCTION's name and as many terms as it takes");
        ClauseKernel kernel = new ClauseKernel();
        for (String one : BASE) {
            arity(kernel, one.substring(0, one.indexOf(' ')), one.charAt(one.length() - 1) - '0');
        }
        for (int n = 0; n <= 6; n++) {
            String parameters = "a b c d e f".substring(0, Math.max(2 * n - 1, 0));
            KIT.answers(kernel, "(defun f" + n + " (" + parameters + ") 7)", 0, "");
            arity(kernel, "f" + n, n);
        }
        KIT.itself(kernel, "(taut (f7))");
        KIT.itself(kernel, "(taut (nope x))");
        KIT.itself(kernel, "(taut (car (nope x)))");
        KIT.itself(kernel, "(taut (7 x))");
        KIT.itself(kernel, "(taut ((car x)))");
        KIT.itself(kernel, "(taut (car x . nope))");
    }

    private static void arity(ClauseKernel kernel, String name, int takes) {
        KIT.fine(kernel, "(same " + call(name, takes) + ")");
        KIT.itself(kernel, "(same " + call(name, takes + 1) + ")");
        if (takes > 0) {
            KIT.itself(kernel, "(same " + call(name, takes - 1) + ")");
            KIT.itself(kernel, "(same " + call(name, takes).replace(" x)", " . x)") + ")");
        }
    }

    private static void reserved() {
        KIT.sentence("quote, nil, t and the names of BASE functions are RESERVED");
        ClauseKernel kernel = new ClauseKernel();
        String proof = " (equal x x) (same x))";
        for (String name : "quote nil t if equal cons implies + - < consp car cdr natp symbolp height not".split(" ")) {
            KIT.answers(kernel, "(defun " + name + " (x) x)", 2, "");
            KIT.answers(kernel, "(check " + name + proof, 2, "");
        }
        for (String name : "* / > = ++ quotes nill tt iff no taut defun check clause undo theorem induct x".split(" ")) {
            KIT.answers(kernel, "(defun " + name + " (x) x)", 0, "");
            KIT.answers(kernel, "(check " + name + proof, 0, "");
        }
    }

    private static void value(ClauseKernel kernel, String call, String value) {
        KIT.clause(kernel, "(value " + call + ")", "((equal " + call + " " + value + "))");
    }

    private static void values() {
        KIT.sentence("VALUES: if, equal, cons, car, cdr, consp, natp, symbolp, not, implies");
        ClauseKernel kernel = new ClauseKernel();
        for (String some : new String[] {"0", "t", "'x", "'(nil)", MOST}) {
            value(kernel, "(if " + some + " 1 2)", "1");
            value(kernel, "(not " + some + ")", "nil");
            value(kernel, "(implies " + some + " nil)", "nil");
            value(kernel, "(implies nil " + some + ")", "t");
            value(kernel, "(implies 7 " + some + ")", "t");
            value(kernel, "(equal " + some + " " + some + ")", "t");
            value(kernel, "(equal " + some + " nil)", "nil");
        }
        value(kernel, "(if nil 1 2)", "2");
        value(kernel, "(not nil)", "t");
        value(kernel, "(implies nil nil)", "t");
        value(kernel, "(equal nil nil)", "t");
        value(kernel, "(equal '(1 . 2) '(1 2))", "nil");
        value(kernel, "(cons nil nil)", "'(nil)");
        for (String none : new String[] {"0", MOST, "nil", "t", "'x"}) {
            value(kernel, "(car " + none + ")", "nil");
            value(kernel, "(cdr " + none + ")", "nil");
            value(kernel, "(consp " + none + ")", "nil");
        }
        value(kernel, "(consp '(nil))", "t");
        value(kernel, "(car '(nil . 1))", "nil");
        value(kernel, "(cdr '(nil . 1))", "1");
        value(kernel, "(natp 0)", "t");
        value(kernel, "(natp " + MOST + ")", "t");
        value(kernel, "(natp '0a)", "nil");
        value(kernel, "(natp '(0))", "nil");
        value(kernel, "(symbolp '0a)", "t");
        value(kernel, "(symbolp 0)", "nil");
        value(kernel, "(symbolp '(x))", "nil");
    }

    private static void heights() {
        KIT.sentence("height 0 of what is no pair, else 1 and the greater one of both sides' heights");
        ClauseKernel kernel = new ClauseKernel();
        for (String none : new String[] {"0", MOST, "nil", "t", "'x"}) {
            value(kernel, "(height " + none + ")", "0");
        }
        value(kernel, "(height '(nil))", "1");
        value(kernel, "(height '((x) . y))", "2");
        value(kernel, "(height '(x y))", "2");
        value(kernel, "(height '((((x))) y))", "4");
        value(kernel, "(height '((x) y z w))", "4");
        value(kernel, "(height ''x)", "2");
        String call = "(height '(" + Kit.times(480, "x ") + "))";
        KIT.answers(kernel, "(check long (equal " + call + " 480) (value " + call + "))", 0, "");
        String tower = "'" + Kit.times(35, "(") + "x" + Kit.times(35, ")");
        value(kernel, "(height " + tower + ")", "35");
    }

    private static void sums() {
        KIT.sentence("+ - < of naturals, all else counting as 0: the sum; the difference, 0 at least; t or nil");
        ClauseKernel kernel = new ClauseKernel();
        for (String none : new String[] {"nil", "t", "'x", "'(5)", "0"}) {
            value(kernel, "(+ " + none + " 7)", "7");
            value(kernel, "(+ 7 " + none + ")", "7");
            value(kernel, "(- 7 " + none + ")", "7");
            value(kernel, "(- " + none + " 7)", "0");
            value(kernel, "(< " + none + " 1)", "t");
            value(kernel, "(< 0 " + none + ")", "nil");
        }
        value(kernel, "(- 7 6)", "1");
        value(kernel, "(- 7 7)", "0");
        value(kernel, "(- 7 8)", "0");
        value(kernel, "(- 0 " + MOST + ")", "0");
        value(kernel, "(- " + MOST + " 0)", MOST);
        value(kernel, "(- " + MOST + " " + MOST + ")", "0");
        value(kernel, "(< 6 7)", "t");
        value(kernel, "(< 7 7)", "nil");
        value(kernel, "(< 8 7)", "nil");
        value(kernel, "(< 4611686018427387902 " + MOST + ")", "t");
        value(kernel, "(< " + MOST + " " + MOST + ")", "nil");
        KIT.sentence("A sum above 2^62 - 1 is TOO GREAT (TOO GREAT: 7)");
        value(kernel, "(+ " + MOST + " 0)", MOST);
        value(kernel, "(+ 1 4611686018427387902)", MOST);
        value(kernel, "(+ 2305843009213693951 2305843009213693952)", MOST);
        KIT.itself(kernel, "(value (+ 2305843009213693952 2305843009213693952))");
        KIT.itself(kernel, "(value (+ 1 " + MOST + "))");
        KIT.itself(kernel, "(value (+ " + MOST + " 1))");
        KIT.itself(kernel, "(value (+ " + MOST + " " + MOST + "))");
        KIT.due("TOO GREAT is no FAULT OF WORK", kernel.fault(2), 0);
    }

    private static void sizesOfTexts() {
        KIT.sentence("A term of a TEXT has a SIZE of at most 120");
        ClauseKernel kernel = KIT.told("(defun rec (x) (if x (rec x) 1))");
        String full = x(120);
        String over = x(121);
        KIT.answers(kernel, "(defun f (x) " + over + ")", 2, "");
        KIT.answers(kernel, "(defun f (x) " + full + ")", 0, "");
        KIT.answers(kernel, "(check a " + over + " nonsense)", 2, "");
        KIT.answers(kernel, "(check a " + full + " nonsense)", 7, "nonsense");
        for (String rule : "taut same value first second pair yes no".split(" ")) {
            int takes = "yes no".contains(rule) ? 3 : "first second pair".contains(rule) ? 2 : 1;
            for (int k = 0; k < takes; k++) {
                String before = "(" + rule + Kit.times(k, " x") + " ";
                String behind = Kit.times(takes - 1 - k, " x") + ")";
                KIT.itself(kernel, before + over + behind);
                if (!rule.equals("value")) {
                    KIT.tooBig(kernel, before + full + behind);
                }
            }
        }
        KIT.fine(kernel, "(weak (" + full + ") (same x))");
        KIT.itself(kernel, "(weak (" + over + ") (same x))");
        KIT.itself(kernel, "(weak (x " + over + ") nonsense)");
        KIT.wrong(kernel, "(weak (x " + full + ") nonsense)", "nonsense");
        KIT.wrong(kernel, "(cut " + full + " nonsense (same x))", "nonsense");
        KIT.itself(kernel, "(cut " + over + " nonsense (same x))");
        KIT.fine(kernel, "(inst (same x) (y " + full + "))");
        KIT.itself(kernel, "(inst (same x) (y " + over + "))");
        KIT.wrong(kernel, "(induct " + full + " (rec x) nonsense (same x))", "nonsense");
        KIT.itself(kernel, "(induct " + over + " (rec x) nonsense (same x))");
    }

    private static void sizesOfConstants() {
        KIT.sentence("The SIZE of a term is how many variables, constants and calls it has (each as often as it stands)");
        ClauseKernel kernel = KIT.told("(defun six (a b c d e f) 7)");
        String big = "'(" + Kit.times(300, "x ") + ")";
        KIT.fine(kernel, "(taut (not " + big + "))");
        KIT.fine(kernel, "(same (cons " + big + " " + big + "))");
        for (String leaf : new String[] {"x", "7", "nil", "'y", "'(a b)"}) {
            KIT.fine(kernel, "(weak (" + Kit.wide(119, leaf) + ") (same " + Kit.wide(59, leaf) + "))");
            KIT.fine(kernel, "(weak (" + Kit.wide(120, leaf) + ") (same x))");
            KIT.itself(kernel, "(weak (" + Kit.wide(121, leaf) + ") (same x))");
        }
        String six = "(six" + Kit.times(6, " x") + ")";
        String sixes = "(six" + Kit.times(6, " " + six) + ")";
        // The SIZE is 1, twice 43, 1, 7 and that of the last one.
        String most = "(if " + sixes + " " + sixes + " (cons " + six + " %s))";
        KIT.fine(kernel, "(weak (" + most.formatted(x(25)) + ") (same x))");
        KIT.itself(kernel, "(weak (" + most.formatted(x(26)) + ") (same x))");
    }

    private static void sizesOfAxioms() {
        KIT.sentence("One that is made (a call or NOT made of terms) with more is TOO BIG, as it is made");
        ClauseKernel kernel = KIT.told("(defun f (x) " + x(117) + ")", "(defun g (x) " + x(118) + ")",
                "(defun h (a b c d e f) " + Kit.wide(112, "a") + ")", "(defun i (a b c d e f) " + Kit.wide(113, "a") + ")");
        KIT.fine(kernel, "(taut " + x(119) + ")");
        KIT.tooBig(kernel, "(taut " + x(120) + ")");
        KIT.fine(kernel, "(same " + x(59) + ")");
        KIT.tooBig(kernel, "(same " + x(60) + ")");
        KIT.fine(kernel, "(first " + x(58) + " x)");
        KIT.tooBig(kernel, "(first " + x(59) + " x)");
        KIT.fine(kernel, "(first x " + x(115) + ")");
        KIT.tooBig(kernel, "(first x " + x(116) + ")");
        KIT.fine(kernel, "(second x " + x(58) + ")");
        KIT.tooBig(kernel, "(second x " + x(59) + ")");
        KIT.fine(kernel, "(second " + x(115) + " x)");
        KIT.tooBig(kernel, "(second " + x(116) + " x)");
        KIT.fine(kernel, "(pair x " + x(117) + ")");
        KIT.tooBig(kernel, "(pair x " + x(118) + ")");
        for (String rule : new String[] {"yes", "no"}) {
            String twice = rule.equals("yes") ? " x %s x)" : " x x %s)";
            String once = rule.equals("yes") ? " x x %s)" : " x %s x)";
            KIT.fine(kernel, "(" + rule + twice.formatted(x(58)));
            KIT.tooBig(kernel, "(" + rule + twice.formatted(x(59)));
            KIT.fine(kernel, "(" + rule + once.formatted(x(115)));
            KIT.tooBig(kernel, "(" + rule + once.formatted(x(116)));
            KIT.fine(kernel, "(" + rule + " " + x(115) + " x x)");
            KIT.tooBig(kernel, "(" + rule + " " + x(116) + " x x)");
        }
        KIT.fine(kernel, "(def f)");
        KIT.tooBig(kernel, "(def g)");
        KIT.fine(kernel, "(def h)");
        KIT.tooBig(kernel, "(def i)");
    }

    private static void sizesOfMade() {
        KIT.sentence("One that is made (an instance of another one) with more is TOO BIG, as it is made");
        ClauseKernel kernel = new ClauseKernel();
        KIT.fine(kernel, "(inst (taut (car x)) (x " + x(118) + "))");
        KIT.tooBig(kernel, "(inst (taut (car x)) (x " + x(119) + "))");
        KIT.fine(kernel, "(inst (weak (x) (same y)) (x " + x(120) + "))");
        KIT.fine(kernel, "(inst (weak ((not x)) (same y)) (x " + x(119) + "))");
        KIT.tooBig(kernel, "(inst (weak ((not x)) (same y)) (x " + x(120) + "))");
        KIT.fine(kernel, "(inst (same x) (x " + x(59) + "))");
        KIT.tooBig(kernel, "(inst (same x) (x " + x(60) + "))");
        KIT.tooBig(kernel, "(inst (taut " + x(110) + ") (x " + Kit.wide(110, "y") + "))");
        String tower = Kit.tower("car", 37, "x");
        KIT.clause(kernel, "(inst (inst (taut " + tower + ") (x " + tower + ")) (x " + tower + "))",
                "(" + Kit.tower("car", 109, "x") + " (not " + Kit.tower("car", 109, "x") + "))");
        KIT.sentence("put: one that is made, with B wherever A stands, is TOO BIG with a SIZE above 120");
        String equation = "(put (taut (equal x %s)) (weak (%s) (same y)))";
        KIT.fine(kernel, equation.formatted("(car x)", x(79)));
        KIT.fine(kernel, equation.formatted("(car (car x))", "(cons (car x) " + Kit.wide(115, "y") + ")"));
        KIT.tooBig(kernel, equation.formatted("(car (car x))", "(cons (car x) " + Kit.wide(116, "y") + ")"));
        KIT.fine(kernel, equation.formatted(Kit.wide(116, "y"), "(car (car (car (car x))))"));
        KIT.tooBig(kernel, equation.formatted(Kit.wide(116, "y"), "(car (car (car (car (car x)))))"));
        KIT.tooBig(kernel, equation.formatted(Kit.wide(116, "y"), x(119)));
        KIT.fine(kernel, "(put (taut (equal (car x) " + x(116) + ")) (pair y y))");
    }

    private static void nots() {
        KIT.sentence("NOT X is Y if X is (not Y); t if X is nil; nil if X is another constant; else (not X)");
        ClauseKernel kernel = new ClauseKernel();
        KIT.clause(kernel, "(taut (not x))", "((not x) x)");
        KIT.clause(kernel, "(taut (not (not x)))", "((not (not x)) (not x))");
        KIT.clause(kernel, "(taut (not nil))", "((not nil) nil)");
        KIT.clause(kernel, "(taut (not 7))", "((not 7) 7)");
        KIT.clause(kernel, "(taut nil)", "(nil t)");
        KIT.clause(kernel, "(taut 'nil)", "(nil t)");
        KIT.clause(kernel, "(taut t)", "(t nil)");
        KIT.clause(kernel, "(taut 0)", "(0 nil)");
        KIT.clause(kernel, "(taut '(not x))", "('(not x) nil)");
        KIT.clause(kernel, "(taut x)", "(x (not x))");
        KIT.clause(kernel, "(taut (car x))", "((car x) (not (car x)))");
        KIT.clause(kernel, "(taut not)", "(not (not not))");
    }

    private static void sizesOfNots() {
        KIT.sentence("NOT: one that is made with a SIZE above 120 is TOO BIG, as it is made");
        ClauseKernel kernel = KIT.told("(defun rec (x) (if x (rec (cons x x)) 1))", Kit.BAD);
        KIT.fine(kernel, "(taut (not " + x(119) + "))");
        KIT.fine(kernel, "(cut " + x(119) + " (weak (" + x(119) + ") (same x)) (weak ((not " + x(119) + ")) (same x)))");
        KIT.tooBig(kernel, "(cut " + x(120) + " (weak (" + x(120) + ") (same x)) (same x))");
        KIT.itself(kernel, "(cut " + x(120) + " (same x) (same x))");
        KIT.clause(kernel, Kit.EMPTY, "nil");
        String parts = Kit.EMPTY + " " + Kit.EMPTY + ")";
        // F2 has two more than F, NOT F2 one more, but for an F that is (not Y).
        String once = "(cons y " + Kit.wide(115, "z") + ")";
        String more = "(cons y " + Kit.wide(116, "z") + ")";
        KIT.fine(kernel, "(induct " + once + " (rec y) " + parts);
        KIT.tooBig(kernel, "(induct " + more + " (rec y) " + parts);
        KIT.fine(kernel, "(induct (not " + once + ") (rec y) " + parts);
        KIT.tooBig(kernel, "(induct (not " + more + ") (rec y) " + parts);
        KIT.fine(kernel, "(induct " + Kit.wide(119, "z") + " (rec y) " + parts);
        KIT.tooBig(kernel, "(induct " + Kit.wide(120, "z") + " (rec y) " + parts);
    }

    private static void different() {
        KIT.sentence("CLAUSES are rows of different terms (one that would come twice stands where it came first)");
        ClauseKernel kernel = new ClauseKernel();
        KIT.clause(kernel, "(weak (x x y x) (same z))", "((equal z z) x y)");
        KIT.clause(kernel, "(weak (x (equal z z)) (same z))", "((equal z z) x)");
        KIT.clause(kernel, "(weak (7 '7 'nil nil '(a) '(a)) (same z))", "((equal z z) 7 nil '(a))");
        KIT.clause(kernel, "(inst (weak (x y z) (same w)) (z x) (y w))", "((equal w w) x w)");
        KIT.clause(kernel, "(cut x (taut x) (taut x))", "((not x) x)");
        KIT.clause(kernel, "(cut x (weak (y) (taut x)) (weak (y) (taut x)))", "((not x) y x)");
        KIT.clause(kernel, "(swap (weak ((equal y x)) (taut (equal x y))))", "((equal y x) (not (equal x y)))");
        KIT.clause(kernel, "(put (weak (y) (taut (equal x y))) (weak (x y) (taut z)))",
                "(z (not z) y (not (equal x y)))");
    }

    private static String variables(int from, int to) {
        StringBuilder all = new StringBuilder();
        for (int k = from; k < to; k++) {
            all.append(" v").append(k);
        }
        return all.toString();
    }

    private static void manyLiterals() {
        KIT.sentence("One of more than 30 is TOO BIG, as it is made");
        ClauseKernel kernel = new ClauseKernel();
        String full = "(weak (" + variables(0, 29) + ") (same x))";
        KIT.fine(kernel, full);
        KIT.due("count(2)", kernel.count(2), 30);
        KIT.tooBig(kernel, "(weak (" + variables(0, 30) + ") (same x))");
        KIT.fine(kernel, "(weak (" + variables(0, 29) + variables(0, 29) + ") (same x))");
        KIT.fine(kernel, "(weak (v0) " + full + ")");
        KIT.tooBig(kernel, "(weak (v29) " + full + ")");
        KIT.fine(kernel, "(swap " + full + ")");
        KIT.fine(kernel, "(inst " + full + " (v0 v29))");
        KIT.due("count(2)", kernel.count(2), 30);
        String left = "(weak (" + variables(0, 15) + ") (same x))";
        KIT.fine(kernel, "(cut v0 " + left + " (weak ((not v0) " + variables(15, 30) + ") (same x)))");
        KIT.due("count(2)", kernel.count(2), 30);
        KIT.tooBig(kernel, "(cut v0 " + left + " (weak ((not v0) " + variables(15, 31) + ") (same x)))");
        KIT.fine(kernel, "(put " + left + " (weak (" + variables(15, 29) + ") (same x)))");
        KIT.due("count(2)", kernel.count(2), 30);
        KIT.tooBig(kernel, "(put " + left + " (weak (" + variables(15, 30) + ") (same x)))");
        KIT.tooBig(kernel, "(weak (" + variables(0, 400) + ") (same x))");
        KIT.due("a clause that is TOO BIG is not counted", kernel.count(2), 30);
    }

    /** A clause of literals of these sizes, and (equal x x), which has 3. */
    private static String weak(int... sizes) {
        StringBuilder all = new StringBuilder("(weak (");
        char leaf = 'a';
        for (int size : sizes) {
            all.append(Kit.wide(size, String.valueOf(leaf))).append(' ');
            leaf++;
        }
        return all.append(") (same x))").toString();
    }

    private static void sizesTogether() {
        KIT.sentence("One whose SIZES together are above 400 is TOO BIG, as it is made");
        ClauseKernel kernel = new ClauseKernel();
        String full = weak(120, 120, 120, 37);
        KIT.fine(kernel, full);
        KIT.due("count(2)", kernel.count(2), 5);
        KIT.tooBig(kernel, weak(120, 120, 120, 38));
        KIT.fine(kernel, "(weak ((equal x x) (equal x x)) " + full + ")");
        KIT.tooBig(kernel, "(weak (x) " + full + ")");
        KIT.fine(kernel, "(inst " + full + ")");
        KIT.fine(kernel, "(swap " + full + ")");
        KIT.fine(kernel, "(inst " + weak(117, 117, 117, 30, 1) + " (x " + x(8) + "))");
        KIT.tooBig(kernel, "(inst " + weak(117, 117, 117, 30, 1) + " (x " + x(9) + "))");
        String cut = "(cut (equal x x) " + weak(120, 120) + " (weak ((not (equal x x)) " + Kit.wide(120, "m") + " %s) (same y)))";
        KIT.fine(kernel, cut.formatted(Kit.wide(37, "n")));
        KIT.due("count(2)", kernel.count(2), 5);
        KIT.tooBig(kernel, cut.formatted(Kit.wide(38, "n")));
        String put = "(put " + weak(120, 1) + " (weak (" + Kit.wide(120, "m") + " " + Kit.wide(120, "n") + " %s) (same y)))";
        KIT.fine(kernel, put.formatted(Kit.wide(36, "o")));
        KIT.tooBig(kernel, put.formatted(Kit.wide(37, "o")));
    }

    private static void sizesOfInductions() {
        KIT.sentence("INDUCTION's clause of more than 30 literals is TOO BIG, as it is made");
        StringBuilder calls = new StringBuilder("nil");
        for (int k = 0; k < 28; k++) {
            calls.insert(0, "(cons (g '" + k + ") ").append(")");
        }
        ClauseKernel many = KIT.told("(defun g (x) (if x " + calls + " 0))");
        KIT.fine(many, "(induct (equal x x) (g x) (same x) (same x))");
        ClauseKernel over = KIT.told("(defun g (x) (if x (cons (g 'm) " + calls + ") 0))");
        KIT.tooBig(over, "(induct (equal x x) (g x) (same x) (same x))");
        KIT.fine(over, "(induct (equal y y) (g x) (same y) (same y))");
        KIT.fine(rulers(28), induct(29));
        KIT.tooBig(rulers(29), induct(30));
        KIT.sentence("INDUCTION's clause whose SIZES together are above 400 is TOO BIG, as it is made");
        // Each NOT F2 has 100, F has 99; NOT the RULER has 1 or 2.
        ClauseKernel kernel = KIT.told("(defun h (x) (if (not x) (cons (h 1) (cons (h 2) (h 3))) 0))",
                "(defun i (x) (if x (cons (i 1) (cons (i 2) (i 3))) 0))");
        String goal = "(equal " + x(49) + " " + x(49) + ")";
        String parts = " (same " + x(49) + ") (same " + x(49) + "))";
        KIT.clause(kernel, "(induct " + goal + " (h x)" + parts, "(" + goal + ")");
        KIT.tooBig(kernel, "(induct " + goal + " (i x)" + parts);
        KIT.clause(kernel, "(induct " + goal + " (i y)" + parts, "(" + goal + ")");
    }

    /** A function of as many RULERS on its last PATH, which has the call. */
    private static ClauseKernel rulers(int n) {
        String[] tests = new String[n];
        String[] unary = {"consp", "car", "cdr", "natp", "height", "symbolp"};
        for (int k = 0; k < n; k++) {
            String variable = String.valueOf("abcdef".charAt(k % 6));
            tests[k] = k < 6 ? variable : "(" + unary[k / 6] + " " + variable + ")";
        }
        StringBuilder body = new StringBuilder("(r a b c d e f)");
        for (int k = n - 1; k >= 0; k--) {
            body.insert(0, "(if " + tests[k] + " 1 ").append(")");
        }
        return KIT.told("(defun r (a b c d e f) " + body + ")");
    }

    private static String induct(int parts) {
        return "(induct (equal a a) (r a b c d e f)" + Kit.times(parts, " (same a)") + ")";
    }
}
