/** Promise 4: fuel. */
public final class FuelTest {
    public static void main(String[] args) {
        Kit kit = new Kit("FuelTest");
        ClauseKernel kernel = new ClauseKernel();
        kit.due("fuel(0)", kernel.fuel(0), -1);
        kit.due("fuel(1001)", kernel.fuel(1001), -1);
        kit.due("fuel(-5)", kernel.fuel(-5), -1);
        kit.due("fuel(3)", kernel.fuel(3), 1000);
        kit.due("fuel(1000)", kernel.fuel(1000), 3);
        kit.due("fuel(1)", kernel.fuel(1), 1000);
        kit.due("refused", kernel.fuel(0), -1);
        kit.due("refused changes nothing", kernel.fuel(2), 1);

        kit.clause(kernel, "(swap (same x))", "((equal x x))");
        kit.work(kernel, "(swap (swap (same x)))", 1);
        kit.due("steps()", kernel.steps(), 2);
        kit.clause(kernel, "(swap (same y))", "((equal y y))");
        kit.due("no fault any more", kernel.fault(2), 0);
        kernel.fuel(1);
        kit.answers(kernel, "(check a (equal x x) (swap (same x)))", 4, "");
        kit.due("nothing was taken", kernel.count(1), 0);
        kit.answers(kernel, "(defun f (x) x)", 0, "");
        kit.work(kernel, "(swap nonsense)", 1);
        kit.wrong(kernel, "nonsense", "nonsense");
        kernel.fuel(2);
        kit.work(kernel, "(put (same x) (swap (same y)))", 1);
        kit.wrong(kernel, "(put nonsense (swap (same y)))", "nonsense");
        kit.end();
    }
}
