/** Promise 6: fault. */
public final class FaultTest {
    private static final Kit KIT = new Kit("FaultTest");

    public static void main(String[] args) {
        ClauseKernel kernel = new ClauseKernel();
        faults(kernel, 0, -1, 0);
        Kit.say(kernel, "(undo");
        faults(kernel, 3, 5, 0);
        kernel.fuel(1);
        Kit.bring(kernel, "(undo)");
        faults(kernel, 3, 5, 0);
        kernel.run();
        faults(kernel, 0, -1, 0);
        Kit.say(kernel, "(clause (swap (same x)))");
        faults(kernel, 0, -1, 1);
        kernel.tell(0);
        faults(kernel, 0, -1, 1);
        Kit.say(kernel, "#");
        faults(kernel, 1, 0, 0);
        Kit.say(kernel, "(nope)");
        faults(kernel, 0, -1, 0);
        Kit.say(kernel, "(clause (same " + Kit.wide(60, "x") + "))");
        faults(kernel, 0, -1, 4);
        Kit.say(kernel, "(clause nonsense)");
        faults(kernel, 0, -1, 0);
        kernel.run();
        faults(kernel, 3, 0, 0);
        KIT.due("fault(3)", kernel.fault(3), -1);
        KIT.due("fault(-1)", kernel.fault(-1), -1);
        KIT.due("fault(most)", kernel.fault(Integer.MAX_VALUE), -1);
        KIT.due("fault(least)", kernel.fault(Integer.MIN_VALUE), -1);
        KIT.end();
    }

    private static void faults(ClauseKernel kernel, int number, int place, int work) {
        KIT.due("fault(0)", kernel.fault(0), number);
        KIT.due("fault(1)", kernel.fault(1), place);
        KIT.due("fault(2)", kernel.fault(2), work);
    }
}
