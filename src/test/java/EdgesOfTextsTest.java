/** 'Terms' 1, sentence by sentence: each boundary of objects and texts, and one beyond it. */
public final class EdgesOfTextsTest {
    private static final Kit KIT = new Kit("EdgesOfTextsTest");
    private static final ClauseKernel KERNEL = new ClauseKernel();
    private static final String MOST = "4611686018427387903";
    private static final String BEYOND = "4611686018427387904";

    public static void main(String[] args) {
        naturals();
        lists();
        lengths();
        characters();
        blanks();
        words();
        atoms();
        objects();
        betweenWords();
        oneObject();
        noWord();
        longAtoms();
        standing();
        open();
        manyWords();
        leastNumber();
        told();
        full();
        KIT.end();
    }

    /** An object as it comes back: a PROOF that is wrong is told. */
    private static void back(String object, String out) {
        KIT.wrong(KERNEL, object, out);
    }

    private static void fault(String text, int number, int place) {
        KIT.unread(KERNEL, text, number, place);
    }

    /** That a text is read: it is (undo), and there is nothing to undo. */
    private static void undoes(String text) {
        KIT.answers(KERNEL, text, 3, "");
    }

    private static void naturals() {
        KIT.sentence("An OBJECT is a NATURAL (0 .. 2^62 - 1), a SYMBOL, or a PAIR; nil and t are symbols");
        back("0", "0");
        back(MOST, MOST);
        fault(BEYOND, 2, 0);
        fault("9223372036854775807", 2, 0);
        fault("9223372036854775808", 2, 0);
        fault("18446744073709551616", 2, 0);
        fault("18446744073709551617", 2, 0);
        KIT.clause(KERNEL, "(value (natp 0))", "((equal (natp 0) t))");
        KIT.clause(KERNEL, "(value (natp " + MOST + "))", "((equal (natp " + MOST + ") t))");
        KIT.clause(KERNEL, "(value (symbolp nil))", "((equal (symbolp nil) t))");
        KIT.clause(KERNEL, "(value (symbolp t))", "((equal (symbolp t) t))");
    }

    private static void lists() {
        KIT.sentence("A LIST is nil, or a pair whose second one is a list");
        undoes("(undo)");
        undoes("(undo . nil)");
        undoes("(undo . ())");
        KIT.answers(KERNEL, "(undo . t)", 2, "");
        KIT.answers(KERNEL, "(undo . 0)", 2, "");
        KIT.answers(KERNEL, "nil", 2, "");
        KIT.clause(KERNEL, "(weak nil (same x))", "((equal x x))");
        KIT.clause(KERNEL, "(weak (y . nil) (same x))", "((equal x x) y)");
        KIT.itself(KERNEL, "(weak t (same x))");
        KIT.itself(KERNEL, "(weak (y . t) (same x))");
        KIT.itself(KERNEL, "(same x . t)");
        KIT.itself(KERNEL, "(same (car x . t))");
    }

    private static void lengths() {
        KIT.sentence("A TEXT has at most 3000 characters");
        ClauseKernel kernel = new ClauseKernel();
        Kit.bring(kernel, "(undo)" + Kit.times(2994, " "));
        KIT.due("end(0)", kernel.end(0), 3000);
        KIT.due("end(1)", kernel.end(1), -1);
        KIT.due("run()", kernel.run(), 3);
        Kit.bring(kernel, Kit.times(2994, " ") + "(undo)");
        KIT.due("run()", kernel.run(), 3);
        Kit.bring(kernel, Kit.times(2999, " ") + "(");
        KIT.due("run()", kernel.run(), 1);
        KIT.due("the end's place", kernel.fault(1), 3000);
        Kit.bring(kernel, Kit.times(2999, " ") + ")");
        KIT.due("run()", kernel.run(), 1);
        KIT.due("the last place", kernel.fault(1), 2999);
    }

    private static void characters() {
        KIT.sentence("characters, 32 .. 126 or 10");
        undoes("( undo)");
        undoes("(\nundo)");
        fault("(\tundo)", 1, 1);
        fault("(\u000bundo)", 1, 1);
        fault("(\u001fundo)", 1, 1);
        fault("(~undo)", 1, 1);
        fault("(\u007fundo)", 1, 1);
        fault("(\u0080undo)", 1, 1);
        fault("(\u00ffundo)", 1, 1);
        fault("\u0000", 1, 0);
    }

    private static void blanks() {
        KIT.sentence("BLANKS are 32, 10, and a ; with all up to the line's end (or the text's)");
        undoes("(undo);");
        undoes("(undo) ;; ; (");
        undoes(";\n(undo)");
        undoes("(;\nundo;)\n)");
        undoes("(undo;\n)");
        StringBuilder all = new StringBuilder();
        for (char c = 0; c < 256; c++) {
            all.append(c == '\n' ? ';' : c);
        }
        undoes(";" + all + "\n(undo)");
        undoes("(undo);" + all);
        fault(";" + all + "\n", 3, 258);
        fault(";(undo)", 3, 7);
        fault("(undo;)", 3, 7);
        fault(";\n#", 1, 2);
    }

    private static void words() {
        KIT.sentence("WORDS, each as long as can be: ( ) ' . (one character each), and ATOMS");
        KIT.answers(KERNEL, "(undoundo)", 2, "");
        back("(a1 1a)", "(a1 1a)");
        back("(1 2a+3 b)", "(1 2a+3 b)");
        back("(())", "(nil)");
        back("''x", "''x");
        fault("(a .. b)", 3, 4);
        back("(1.5)", "(1 . 5)");
        back("(a.'b)", "(a quote b)");
        back("(x'y(z)w)", "(x 'y (z) w)");
    }

    private static void atoms() {
        KIT.sentence("ATOMS, of letters a .. z, digits and + - * / < > = ? ! _");
        String letters = "abcdefghijklmnopqrstuvwxyz0123456789+-*/<>=?!_";
        for (char c : letters.toCharArray()) {
            back("a" + c, "a" + c);
            back(c + "a", c + "a");
        }
        for (char c = 0; c < 256; c++) {
            if (letters.indexOf(c) < 0 && "\n ;().'".indexOf(c) < 0) {
                fault("(undo" + c, 1, 5);
                fault("(" + c + "undo)", 1, 1);
            }
        }
        KIT.sentence("one of digits alone is a NATURAL, another one a SYMBOL of at most 11 characters");
        back("9", "9");
        back("123456789012", "123456789012");
        back("12345678901_", 2);
        back("1234567890_", "1234567890_");
        back("_1234567890", "_1234567890");
        back("_12345678901", 2);
        back("zzzzzzzzzzz", "zzzzzzzzzzz");
        back("zzzzzzzzzzzz", 2);
        back("___________", "___________");
        back("aaaaaaaaaaa", "aaaaaaaaaaa");
        back("aaaaaaaaaaaa", 2);
        back("0aaaaaaaaaa", "0aaaaaaaaaa");
        KIT.clause(KERNEL, "(value (equal 'aaaaaaaaaaa 'aaaaaaaaaab))", "((equal (equal 'aaaaaaaaaaa 'aaaaaaaaaab) nil))");
        KIT.clause(KERNEL, "(value (equal 'a 'aa))", "((equal (equal 'a 'aa) nil))");
    }

    /** An object that is not read. */
    private static void back(String object, int fault) {
        fault("(clause " + object + ")", fault, 8);
    }

    private static void objects() {
        KIT.sentence("( and objects, perhaps none, and ) : their list");
        back("()", "nil");
        back("(x)", "(x)");
        back("(x y)", "(x y)");
        KIT.sentence("' and an object X: the list (quote X)");
        back("(quote x)", "'x");
        back("'()", "'nil");
        KIT.clause(KERNEL, "(value (car ''x))", "((equal (car ''x) 'quote))");
        fault("'", 3, 1);
        fault("(')", 3, 2);
        KIT.sentence("( and objects, at least one, . one object and )");
        back("(x . y)", "(x . y)");
        back("(x y . z)", "(x y . z)");
        back("(x . (y))", "(x y)");
        fault("(. y)", 3, 1);
        fault("(x . )", 3, 5);
        fault("(x . y z)", 3, 7);
        fault("(x . y . z)", 3, 7);
        fault("x . y", 3, 2);
        fault("'x . y", 3, 3);
    }

    private static void betweenWords() {
        KIT.sentence("BLANKS may stand between any two words");
        String[] gaps = {"", " ", "\n", ";\n", "  \n ; ) ( \n"};
        for (String gap : gaps) {
            String blank = gap.isEmpty() ? " " : gap;
            back(String.join(gap, "", "(", "a" + blank + "b", ".", "'", "c", ")", ""), "(a b quote c)");
            undoes(String.join(gap, "", "(", "undo", ")", ""));
            back(String.join(gap, "'", "'", "(", "(", ")", ")"), "''(nil)");
        }
    }

    private static void oneObject() {
        KIT.sentence("READING: the text must be one object, BLANKS ahead and behind");
        fault("", 3, 0);
        fault(" \n;", 3, 3);
        undoes("(undo)");
        undoes(" \n;\n(undo) \n;");
        fault("(undo)(undo)", 3, 6);
        fault("(undo) nil", 3, 7);
        fault("nil nil", 3, 4);
        KIT.answers(KERNEL, "x", 2, "");
        KIT.answers(KERNEL, "'x", 2, "");
    }

    private static void noWord() {
        KIT.sentence("FAULTS, the first from the left, with the place where its word begins: 1 a character with which "
                + "no word begins");
        fault("#", 1, 0);
        fault(" #", 1, 1);
        fault("(undo)#", 1, 6);
        fault("(undo #) #", 1, 6);
        fault("(undo #) abcdefghijkl", 1, 6);
        fault(") #", 3, 0);
        fault("abcdefghijkl #", 2, 0);
        for (char c : "\"#$%&,:@ABCXYZ[\\]^`{|}~".toCharArray()) {
            fault("(x " + c + ")", 1, 3);
        }
    }

    private static void longAtoms() {
        KIT.sentence("2 a SYMBOL of more than 11, a NATURAL above 2^62 - 1");
        back("(abcdefghijk)", "(abcdefghijk)");
        fault("(abcdefghijkl)", 2, 1);
        fault("(x " + Kit.times(2900, "a") + ")", 2, 3);
        fault("(x " + MOST + " " + BEYOND + ")", 2, 4 + MOST.length());
        fault("(x " + Kit.times(2900, "9") + ")", 2, 3);
        fault("(x 10000000000000000000000000000000000000000)", 2, 3);
        back("00000000000000000000000000000000" + MOST, MOST);
        fault("00000000000000000000000000000000" + BEYOND, 2, 0);
        back(Kit.times(2900, "0"), "0");
    }

    private static void standing() {
        KIT.sentence("3 a word, or the end, that can't stand there (the text's length for its end)");
        fault(")", 3, 0);
        fault(" .", 3, 1);
        fault("(undo", 3, 5);
        fault("(undo  ", 3, 7);
        fault("(undo ; )", 3, 9);
        fault("(undo ;\n", 3, 8);
        fault("(undo) )", 3, 7);
        fault("(undo) .", 3, 7);
        fault("(undo) '", 3, 7);
        fault("(undo) (", 3, 7);
        fault("(a . ", 3, 5);
        fault("(a . b", 3, 6);
        fault("(a . b ", 3, 7);
        fault("(a . ')", 3, 6);
        fault("(a . '.", 3, 6);
        fault("(a . b '", 3, 7);
        fault("(a . b (", 3, 7);
        fault("(a . 'b c)", 3, 8);
        fault("(a . (b) c)", 3, 9);
    }

    private static void open() {
        KIT.sentence("4 a ( or ' that is in 40 of these that are open (a ' until its object has ended)");
        KIT.answers(KERNEL, Kit.times(40, "(") + Kit.times(40, ")"), 2, "");
        fault(Kit.times(41, "(") + Kit.times(41, ")"), 4, 40);
        KIT.answers(KERNEL, Kit.times(40, "'") + "x", 2, "");
        fault(Kit.times(41, "'") + "x", 4, 40);
        KIT.answers(KERNEL, Kit.times(20, "('") + "x" + Kit.times(20, ")"), 2, "");
        fault(Kit.times(20, "('") + "'x" + Kit.times(20, ")"), 4, 40);
        fault(Kit.times(20, "('") + "(x" + Kit.times(20, ")"), 4, 40);
        KIT.answers(KERNEL, Kit.times(39, "(") + "'x 'y () (z) . 'w" + Kit.times(39, ")"), 2, "");
        fault(Kit.times(39, "(") + "'x 'y '(", 4, 46);
        fault(Kit.times(39, "(") + "(z) ('", 4, 44);
        KIT.answers(KERNEL, "(" + Kit.times(100, "'x ()") + Kit.times(39, "(") + Kit.times(39, ")") + ")", 2, "");
        KIT.answers(KERNEL, "(x . " + Kit.times(39, "(") + Kit.times(39, ")") + ")", 2, "");
        fault("(x . " + Kit.times(40, "("), 4, 44);
    }

    private static void manyWords() {
        KIT.sentence("5 the 1001st word");
        KIT.answers(KERNEL, "(" + Kit.times(998, "x ") + ")", 2, "");
        fault("(" + Kit.times(999, "x ") + ")", 5, 1999);
        KIT.answers(KERNEL, "(" + Kit.times(996, "x ") + ". x)", 2, "");
        fault("(" + Kit.times(997, "x ") + ". x)", 5, 1998);
        KIT.answers(KERNEL, "(" + Kit.times(499, "'x ") + ")", 2, "");
        fault("(x " + Kit.times(499, "'x ") + ")", 5, 1500);
        KIT.answers(KERNEL, "(" + Kit.times(499, "()") + ")", 2, "");
        fault("(x " + Kit.times(499, "()") + ")", 5, 1001);
        undoes(";" + Kit.times(1400, " x") + "\n(undo)");
    }

    private static void leastNumber() {
        KIT.sentence("At one place the least number");
        String open = Kit.times(40, "(");
        String words = "(" + Kit.times(999, "x ");
        fault("(undo) #", 1, 7);
        fault(open + "#", 1, 40);
        fault(words + "#", 1, 1999);
        fault("(undo) abcdefghijkl", 2, 7);
        fault("(undo) " + BEYOND, 2, 7);
        fault(words + "abcdefghijkl", 2, 1999);
        fault(open + "a . b (", 3, 46);
        fault(open + "a . b '", 3, 46);
        fault("(" + Kit.times(997, "x ") + ". y z", 3, 1999);
        fault("(" + Kit.times(997, "x ") + ". y (", 3, 1999);
        fault("(" + Kit.times(998, "x ") + ". )", 3, 1999);
        fault("(" + Kit.times(998, "x ") + ") x", 3, 1999);
        fault(open + Kit.times(960, "x ") + "(", 4, 1960);
        fault(open + Kit.times(960, "x ") + "'", 4, 1960);
        fault(open + Kit.times(960, "x ") + "y", 5, 1960);
        fault("(" + Kit.times(998, "x ") + "y", 3, 1998);
    }

    private static void told() {
        KIT.sentence("TOLD: NATURALS without zeros in front, symbols, the list (quote X) as ' and X");
        back("0", "0");
        back("00", "0");
        back("0010", "10");
        back("00a", "00a");
        back("'x", "'x");
        back("(quote)", "(quote)");
        back("(quote x)", "'x");
        back("(quote x y)", "(quote x y)");
        back("(quote x . y)", "(quote x . y)");
        back("(quote . x)", "(quote . x)");
        KIT.sentence("other pairs as lists, with . and the last one if that isn't nil; one blank between");
        back("( x  .  nil )", "(x)");
        back("(x.t)", "(x . t)");
        back("(x\ny;\n.0)", "(x y . 0)");
        back("((x.y).(z))", "((x . y) z)");
    }

    private static void full() {
        KIT.sentence("OUT has at most 2000 characters; what would come behind is left out");
        String word = Kit.times(1986, "0") + "1";
        back(word, "1");
        String most = "(" + Kit.times(199, "123456789 ") + "12345678)";
        KIT.due("the boundary", most.length(), 2000);
        back(most, most);
        back(most.replace("8)", ")"), most.replace("8)", ")"));
        KIT.due("size()", KERNEL.size(), 1999);
        back(most.replace("8)", "89)"), most.replace("8)", "89"));
        KIT.due("size()", KERNEL.size(), 2000);
        back(most.replace("8)", "8 x)"), most.replace("8)", "8 "));
        back(most.replace("78)", " . x)"), most.replace("78)", " . "));
        back(most.replace("678)", " 'x)"), most.replace("678)", " 'x)"));
        back(most.replace("678)", "6 'x)"), most.replace("678)", "6 'x"));
        back(most.replace("678)", "67 'x)"), most.replace("678)", "67 '"));
        back("(" + Kit.times(290, "123456789 ") + ")", ("(" + Kit.times(290, "123456789 ")).substring(0, 2000));
    }
}
