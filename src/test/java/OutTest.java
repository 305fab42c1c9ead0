/** Promises 9 and 10: size and letter. */
public final class OutTest {
    public static void main(String[] args) {
        Kit kit = new Kit("OutTest");
        ClauseKernel kernel = kit.told("(clause (taut (not x)))");
        String due = "((not x) x)";
        kit.due("size()", kernel.size(), due.length());
        for (int k = 0; k < due.length(); k++) {
            kit.due("letter(" + k + ")", kernel.letter(k), (int) due.charAt(k));
        }
        for (int k : new int[] {-1, due.length(), due.length() + 1, Integer.MIN_VALUE, Integer.MAX_VALUE}) {
            kit.due("letter(" + k + ")", kernel.letter(k), -1);
        }
        kernel.fuel(5);
        Kit.bring(kernel, "(undo)");
        kit.due("OUT stays up to the next run()", Kit.out(kernel), due);
        kernel.run();
        kit.due("size() of an empty OUT", kernel.size(), 0);
        kit.due("letter(0) of an empty OUT", kernel.letter(0), -1);

        for (String text : new String[] {"(undo", "(nope)", "(undo)", "(defun f (x) x)", "(defun f (x) x)",
            "(check a (equal x x) (same x))", "(check a x x)", "(clause (same " + Kit.wide(60, "x") + "))"}) {
            Kit.say(kernel, "(clause (same x))");
            kit.due("OUT is told", kernel.size(), 13);
            Kit.say(kernel, text);
            kit.due("OUT is empty after " + text, kernel.size(), 0);
        }

        String literal = "(equal x '(" + Kit.times(180, "abcdefghij ") + "abcdefghij))";
        Kit.say(kernel, "(clause (weak (" + literal + ") (same x)))");
        kit.due("OUT is full", kernel.size(), 2000);
        Kit.say(kernel, "(clause (inst (weak ((cons x x)) (same x)) (x '(" + Kit.times(90, "abcdefghij ") + "))))");
        kit.due("OUT is full", kernel.size(), 2000);
        kit.due("the last letter", kernel.letter(1999) > 0, true);
        kit.due("none behind", kernel.letter(2000), -1);
        kit.end();
    }
}
