import com.sun.management.ThreadMXBean;
import java.lang.management.ManagementFactory;

/** All calls of a run live in one room of some 7.3 million fields and elements: what dear runs make is counted. */
public final class RoomTest {
    // A quarter of the room, with four bytes for each field or element.
    private static final long MOST = 7_300_000L;
    private static final Kit KIT = new Kit("RoomTest");
    private static final ThreadMXBean THREADS = (ThreadMXBean) ManagementFactory.getThreadMXBean();

    public static void main(String[] args) {
        room("long proofs", RoomTest::longProofs);
        room("many literals", RoomTest::manyLiterals);
        room("many commands", RoomTest::manyCommands);
        room("much telling", RoomTest::muchTelling);
        room("many objects", RoomTest::manyObjects);
        KIT.end();
    }

    private static void room(String what, Runnable run) {
        run.run();
        long before = THREADS.getThreadAllocatedBytes(Thread.currentThread().getId());
        run.run();
        long bytes = THREADS.getThreadAllocatedBytes(Thread.currentThread().getId()) - before;
        System.out.println("RoomTest: " + what + " made " + bytes + " bytes");
        KIT.due(what + " made few bytes", bytes < MOST, true);
    }

    /** Two texts, as long as the calls of one object let them be, of rules that make all literals anew. */
    private static void longProofs() {
        ClauseKernel kernel = new ClauseKernel();
        StringBuilder many = new StringBuilder();
        for (String variable : Kit.variables(29)) {
            many.append(' ').append(variable);
        }
        String clause = "(weak (" + many + ") (same x))";
        String text = "(clause " + Kit.times(37, "(put (same x)") + clause + Kit.times(38, ")");
        for (int k = 0; k < 7; k++) {
            Kit.say(kernel, text);
        }
        KIT.due("steps()", kernel.steps(), 76);
    }

    private static void manyLiterals() {
        ClauseKernel kernel = new ClauseKernel();
        for (int k = 0; k < 2; k++) {
            Kit.say(kernel, "(clause (weak (" + Kit.times(900, "x ") + ") (weak (" + Kit.times(80, "y ") + ") (same x))))");
            KIT.due("count(2)", kernel.count(2), 3);
        }
    }

    private static void manyCommands() {
        ClauseKernel kernel = new ClauseKernel();
        for (int k = 0; k < 85; k++) {
            Kit.say(kernel, k % 2 == 0 ? "(defun f (x) (if x (f x) 1))" : "(undo)");
            Kit.say(kernel, "(clause (def f))");
        }
    }

    private static void muchTelling() {
        ClauseKernel kernel = new ClauseKernel();
        Kit.say(kernel, "(defun f (x) " + Kit.wide(120, "x") + ")");
        for (int k = 0; k < 450; k++) {
            KIT.due("tell(0)", kernel.tell(0) > 500, true);
        }
    }

    private static void manyObjects() {
        for (int k = 0; k < 100; k++) {
            Kit.say(new ClauseKernel(), "(clause (same x))");
        }
    }
}
