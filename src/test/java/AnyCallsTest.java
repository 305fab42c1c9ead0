import java.util.Random;

/** No call may throw, whatever the arguments and the state: random calls, far more than an object is used for. */
public final class AnyCallsTest {
    private static final Kit KIT = new Kit("AnyCallsTest");
    private static final String[] PIECES = {"(", ")", "'", ".", " ", "\n", ";", "x", "y", "nil", "t", "0", "7",
        "(defun f (x) ", "(if x (f (cdr x)) 1))", "(check a ", "(clause ", "(undo)", "(equal x x)", "(same x)", "(taut ",
        "(weak (", "(cut x ", "(inst ", "(swap ", "(put ", "(induct (equal x x) (f x) ", "(value (+ 1 ", "(x (car x))",
        "(def f)", "(thm a)", "quote", "4611686018427387903", "4611686018427387904", "abcdefghijkl", "\u0000", "\u00ff"};

    public static void main(String[] args) {
        for (long seed = 1; seed <= 60; seed++) {
            ClauseKernel kernel = new ClauseKernel();
            Random random = new Random(seed);
            for (int k = 0; k < 3000; k++) {
                call(kernel, random);
            }
        }
        KIT.end();
    }

    private static int any(Random random) {
        switch (random.nextInt(4)) {
            case 0:
                return random.nextInt();
            case 1:
                return random.nextInt(2) == 0 ? Integer.MIN_VALUE : Integer.MAX_VALUE;
            default:
                return random.nextInt(30) - 4;
        }
    }

    private static void call(ClauseKernel kernel, Random random) {
        switch (random.nextInt(14)) {
            case 0:
                kernel.feed(any(random), random.nextInt(), random.nextInt(), random.nextInt(), any(random));
                return;
            case 1:
                within("end", kernel.end(any(random)), 3000);
                return;
            case 2:
                within("fuel", kernel.fuel(random.nextBoolean() ? 1000 : any(random)), 1000);
                return;
            case 3:
                within("run", kernel.run(), 8);
                return;
            case 4:
                within("fault", kernel.fault(any(random)), 3000);
                return;
            case 5:
                within("steps", kernel.steps(), 1000);
                return;
            case 6:
                within("count", kernel.count(any(random)), 60);
                return;
            case 7:
                within("size", kernel.size(), 2000);
                return;
            case 8:
                within("letter", kernel.letter(any(random)), 126);
                return;
            case 9:
                within("tell", kernel.tell(any(random)), 2000);
                return;
            default:
                Kit.bring(kernel, PIECES[random.nextInt(PIECES.length)]);
        }
    }

    private static void within(String what, int answer, int most) {
        KIT.due(what + " is in its bounds", answer >= -1 && answer <= most, true);
    }
}
