/** Promise 1: a new object. */
public final class NewObjectTest {
    public static void main(String[] args) {
        Kit kit = new Kit("NewObjectTest");
        ClauseKernel kernel = new ClauseKernel();
        kit.due("count(0)", kernel.count(0), 0);
        kit.due("count(1)", kernel.count(1), 0);
        kit.due("count(2)", kernel.count(2), 0);
        kit.due("size()", kernel.size(), 0);
        kit.due("letter(0)", kernel.letter(0), -1);
        kit.due("steps()", kernel.steps(), 0);
        kit.due("fault(0)", kernel.fault(0), 0);
        kit.due("fault(1)", kernel.fault(1), -1);
        kit.due("fault(2)", kernel.fault(2), 0);
        kit.due("tell(0)", kernel.tell(0), -1);
        kit.due("end(0)", kernel.end(0), 0);
        kit.due("fuel(1000)", kernel.fuel(1000), 1000);
        kit.due("NONE", ClauseKernel.NONE, -1);
        kit.unread(kernel, "", 3, 0);

        ClauseKernel one = kit.told("(defun f (x) x)");
        ClauseKernel other = new ClauseKernel();
        kit.due("two objects share nothing", other.count(0), 0);
        kit.due("the first one has it", one.count(0), 1);
        kit.end();
    }
}
