/** Promises 5 and 6: the READING of a TEXT, its FAULTS and their places. */
public final class ReadingTest {
    private static final Kit KIT = new Kit("ReadingTest");
    private static final ClauseKernel KERNEL = new ClauseKernel();

    public static void main(String[] args) {
        objects();
        characters();
        longWords();
        standing();
        nesting();
        words();
        telling();
        KIT.end();
    }

    /** An object as it comes back: a PROOF that is wrong is told. */
    private static void told(String object, String out) {
        KIT.wrong(KERNEL, object, out);
    }

    private static void fault(String text, int number, int place) {
        KIT.unread(KERNEL, text, number, place);
    }

    private static void objects() {
        told("x", "x");
        told("()", "nil");
        told("( )", "nil");
        told("nil", "nil");
        told("007", "7");
        told("0", "0");
        told("0000", "0");
        told("4611686018427387903", "4611686018427387903");
        told("000000000000000000000000004611686018427387903", "4611686018427387903");
        told("12a", "12a");
        told("-5", "-5");
        told("+-*/<>=?!_", "+-*/<>=?!_");
        told("abcdefghijk", "abcdefghijk");
        told("lmnopqrstuv", "lmnopqrstuv");
        told("wxyz0123456", "wxyz0123456");
        told("789________", "789________");
        told("(a.b)", "(a . b)");
        told("(a . (b . (c . nil)))", "(a b c)");
        told("(a b . c)", "(a b . c)");
        told("(a . ())", "(a)");
        told("(()())", "(nil nil)");
        told("'a", "'a");
        told("(a'b)", "(a 'b)");
        told("(1.2)", "(1 . 2)");
        told("(quote a)", "'a");
        told("(quote . (a . nil))", "'a");
        told("(quote)", "(quote)");
        told("(quote a b)", "(quote a b)");
        told("(quote . a)", "(quote . a)");
        told("(a quote b)", "(a quote b)");
        told("(a . 'b)", "(a quote b)");
        told("''a", "''a");
        told("'()", "'nil");
        told("'5", "'5");
        told("(x 'nil '(a . 'b))", "(x 'nil '(a quote b))");
        told("(a;(\nb ; c\n)", "(a b)");
        told("(a\n\n b)", "(a b)");
        KIT.answers(KERNEL, "\n ; one \u0000 \u00ff \n(undo) ; )", 3, "");
        KIT.answers(KERNEL, ";\n(undo);", 3, "");
        KIT.due("no fault", KERNEL.fault(0), 0);
        KIT.due("no place", KERNEL.fault(1), -1);
    }

    private static void characters() {
        fault("#", 1, 0);
        fault("(undo)#", 1, 6);
        fault("(undo) X", 1, 7);
        fault("(a:b)", 1, 2);
        fault("\t", 1, 0);
        fault("(undo)\r", 1, 6);
        fault("(a\u007f", 1, 2);
        fault("(a\u00e9", 1, 2);
        for (char c = 0; c < 256; c++) {
            boolean fine = "\n ;().'+-*/<>=?!_".indexOf(c) >= 0 || c >= 'a' && c <= 'z' || c >= '0' && c <= '9';
            Kit.say(KERNEL, "(undo " + c);
            KIT.due("fault of character " + (int) c, KERNEL.fault(0), c == ')' ? 0 : fine ? 3 : 1);
        }
    }

    private static void longWords() {
        fault("abcdefghijkl", 2, 0);
        fault("(undo abcdefghijkl", 2, 6);
        fault("4611686018427387904", 2, 0);
        fault("( 99999999999999999999999999999999", 2, 2);
        fault("46116860184273879030", 2, 0);
        fault("(x 123456789012a)", 2, 3);
        fault("(undo) abcdefghijkl", 2, 7);
        fault("(undo) 4611686018427387904", 2, 7);
        fault("(abcdefghijkl#", 2, 1);
    }

    private static void standing() {
        fault("", 3, 0);
        fault("   ", 3, 3);
        fault("; (undo)", 3, 8);
        fault(")", 3, 0);
        fault(".", 3, 0);
        fault("'", 3, 1);
        fault("')", 3, 1);
        fault("'.", 3, 1);
        fault("(", 3, 1);
        fault("(undo", 3, 5);
        fault("(undo) (undo)", 3, 7);
        fault("(undo))", 3, 6);
        fault("(undo) .", 3, 7);
        fault("(undo)'", 3, 6);
        fault("a b", 3, 2);
        fault("(. a)", 3, 1);
        fault("(a . )", 3, 5);
        fault("(a . . b)", 3, 5);
        fault("(a . b c)", 3, 7);
        fault("(a . b . c)", 3, 7);
        fault("(a . b 'c)", 3, 7);
        fault("(a . b (c))", 3, 7);
        fault("(a . b", 3, 6);
        fault("(a .", 3, 4);
        fault("(a '. b)", 3, 4);
    }

    private static void nesting() {
        told(Kit.times(39, "(") + Kit.times(39, ")"), Kit.times(38, "(") + "nil" + Kit.times(38, ")"));
        told(Kit.times(39, "'") + "a", Kit.times(39, "'") + "a");
        fault(Kit.times(41, "("), 4, 40);
        fault(Kit.times(41, "'"), 4, 40);
        fault(Kit.times(40, "("), 3, 40);
        fault(Kit.times(40, "(") + "'a", 4, 40);
        fault(Kit.times(39, "(") + "'(", 4, 40);
        fault(Kit.times(39, "(") + "'a (" + Kit.times(40, ")") + "(", 3, 83);
        fault("(undo" + Kit.times(45, " ()") + Kit.times(40, "("), 4, 140 + 39);
        fault("(undo" + Kit.times(45, " 'a") + Kit.times(40, "'"), 4, 140 + 39);
        fault(Kit.times(40, "(") + Kit.times(40, ")") + "(", 3, 80);
    }

    private static void words() {
        told("(" + Kit.times(994, "x ") + "x)", "(" + Kit.times(994, "x ") + "x)");
        fault("(" + Kit.times(999, "x "), 3, 1999);
        fault("(" + Kit.times(1000, "x "), 5, 1999);
        fault("(" + Kit.times(998, "x ") + "))", 3, 1998);
        fault("(" + Kit.times(999, "x ") + ")", 5, 1999);
        fault("(" + Kit.times(999, "x ") + "#", 1, 1999);
        fault("(" + Kit.times(999, "x ") + "abcdefghijklm", 2, 1999);
        fault("(" + Kit.times(998, "x ") + ". ", 3, 1999);
        fault("(" + Kit.times(998, "x ") + ". )", 3, 1999);
        fault("(" + Kit.times(998, "x ") + ". y)", 5, 1999);
        fault(Kit.times(40, "(") + Kit.times(960, "x ") + "(", 4, 1960);
    }

    private static void telling() {
        String word = "abcdefghij ";
        String most = "(" + Kit.times(181, word) + "1234567)";
        KIT.due("as long as can be", most.length(), 2000);
        told(most, most);
        told("(" + Kit.times(181, word) + "123456)", "(" + Kit.times(181, word) + "123456)");
        KIT.due("size() of one less", KERNEL.size(), 1999);
        told("(" + Kit.times(181, word) + "12345678)", "(" + Kit.times(181, word) + "12345678");
        KIT.due("size() of one more", KERNEL.size(), 2000);
        told("(" + Kit.times(181, word) + "123 . 123)", "(" + Kit.times(181, word) + "123 . 12");
        told("(" + Kit.times(181, word) + "'((a b c d)))", "(" + Kit.times(181, word) + "'((a b c");
        told("(" + Kit.times(250, word) + "abc)", ("(" + Kit.times(250, word)).substring(0, 2000));
    }
}
