/** Promise 3: end. */
public final class EndTest {
    public static void main(String[] args) {
        Kit kit = new Kit("EndTest");
        ClauseKernel kernel = new ClauseKernel();
        kit.due("end(-1)", kernel.end(-1), -1);
        kit.due("end(21)", kernel.end(21), -1);
        kit.due("end(least)", kernel.end(Integer.MIN_VALUE), -1);
        kit.due("end(most)", kernel.end(Integer.MAX_VALUE), -1);
        kit.due("end(0)", kernel.end(0), 0);
        kit.due("end(20)", kernel.end(20), 20);
        kit.due("end(1)", kernel.end(1), 21);
        kit.due("run()", kernel.run(), 1);
        kit.due("run() leaves an empty text", kernel.end(0), 0);

        String full = "(undo)" + Kit.times(2994, " ");
        Kit.bring(kernel, full);
        kit.due("the text has 3000", kernel.end(0), 3000);
        kit.due("3001 are refused", kernel.end(1), -1);
        kit.due("and change nothing", kernel.end(0), 3000);
        kit.due("3000 can be run", kernel.run(), 3);

        Kit.bring(kernel, full.substring(0, 2990));
        kit.due("3001 of 2990", kernel.end(11), -1);
        kit.due("3000 of 2990", kernel.end(10), 3000);
        kernel.run();
        kit.due("the bytes of 0 are there", kernel.fault(1), 2990);
        kit.end();
    }
}
