/** Promise 11: tell. */
public final class TellTest {
    private static final Kit KIT = new Kit("TellTest");

    public static void main(String[] args) {
        ClauseKernel kernel = new ClauseKernel();
        KIT.due("tell(0)", kernel.tell(0), -1);
        for (String text : new String[] {"(defun f (x y) (cons x (cons '5 (cons 'nil (cons 'a '(b . 'c))))))",
            "(check a (equal (cons '007 't) (cons 7 t)) (same (cons 7 't)))", "(defun g () (g))",
            "(check f (equal '\n'x (quote (quote x))) (same ''x)) ; a remark", "(defun two (quote x) (cons quote x))",
            "(defun one (quote) (if quote 1 'quote))"}) {
            KIT.answers(kernel, text, 0, "");
        }
        told(kernel, 0, "(defun f (x y) (cons x (cons 5 (cons nil (cons 'a '(b quote c))))))");
        told(kernel, 1, "(theorem a (equal (cons 7 t) (cons 7 t)))");
        told(kernel, 2, "(defun g nil (g))");
        told(kernel, 3, "(theorem f (equal ''x ''x))");
        told(kernel, 4, "(defun two 'x (cons quote x))");
        told(kernel, 5, "(defun one (quote) (if quote 1 'quote))");
        KIT.answers(kernel, "(clause (same x))", 0, "((equal x x))");
        for (int k : new int[] {6, -1, 100, Integer.MIN_VALUE, Integer.MAX_VALUE}) {
            KIT.due("tell(" + k + ")", kernel.tell(k), -1);
            KIT.due("OUT stays", Kit.out(kernel), "((equal x x))");
        }
        KIT.answers(kernel, "(undo)", 0, "");
        KIT.due("tell(5)", kernel.tell(5), -1);
        told(kernel, 4, "(defun two 'x (cons quote x))");
        KIT.answers(kernel, "(check b (natp x) nonsense)", 7, "nonsense");
        KIT.due("tell(5)", kernel.tell(5), -1);
        KIT.answers(kernel, "(check b t (weak (t) (same x)))", 7, "((equal x x) t)");
        KIT.answers(kernel, "(check b (equal x x) (same x))", 0, "");
        told(kernel, 5, "(theorem b (equal x x))");
        KIT.due("tell changes no count", kernel.count(0) * 10 + kernel.count(1), 33);

        String list = "'(" + Kit.times(200, "abcdefghij ") + "abcdefghij)";
        KIT.answers(kernel, "(defun long (x) (cons x " + list + "))", 0, "");
        KIT.due("tell(6)", kernel.tell(6), 2000);
        KIT.due("OUT of tell(6)", Kit.out(kernel), ("(defun long (x) (cons x " + list).substring(0, 2000));
        again(kernel);
        KIT.end();
    }

    private static void told(ClauseKernel kernel, int k, String text) {
        KIT.due("tell(" + k + ")", kernel.tell(k), text.length());
        KIT.due("OUT of tell(" + k + ")", Kit.out(kernel), text);
        KIT.due("size()", kernel.size(), text.length());
    }

    /** What is told can be said again, to another kernel. */
    private static void again(ClauseKernel kernel) {
        ClauseKernel other = new ClauseKernel();
        for (int k = 0; k < 6; k++) {
            kernel.tell(k);
            String text = Kit.out(kernel);
            if (text.startsWith("(defun")) {
                KIT.answers(other, text, 0, "");
                other.tell(other.count(0) - 1);
                KIT.due("told again", Kit.out(other), text);
            }
        }
    }
}
