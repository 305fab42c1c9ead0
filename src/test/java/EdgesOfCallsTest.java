/** Promises 1 to 11, sentence by sentence: each boundary of a call, and one beyond it. */
public final class EdgesOfCallsTest {
    private static final Kit KIT = new Kit("EdgesOfCallsTest");
    private static final int LEAST = Integer.MIN_VALUE;
    private static final int MOST = Integer.MAX_VALUE;

    public static void main(String[] args) {
        newObject();
        feed();
        end();
        fuel();
        run();
        fault();
        steps();
        count();
        size();
        letter();
        tell();
        calls();
        KIT.end();
    }

    private static void newObject() {
        KIT.sentence("1: Nothing DEFINED, no theorems; no TEXT, OUT is empty");
        ClauseKernel kernel = new ClauseKernel();
        KIT.due("count(0)", kernel.count(0), 0);
        KIT.due("count(1)", kernel.count(1), 0);
        KIT.due("tell(0)", kernel.tell(0), -1);
        KIT.due("size()", kernel.size(), 0);
        KIT.due("letter(0)", kernel.letter(0), -1);
        KIT.due("end(0)", kernel.end(0), 0);
        KIT.answers(kernel, "(undo)", 3, "");
        ClauseKernel other = new ClauseKernel();
        KIT.due("run() without a TEXT", other.run(), 1);
        KIT.due("its FAULT", other.fault(0), 3);
        KIT.due("its place", other.fault(1), 0);
    }

    /** The number of the first byte that waits and is no blank, told by the FAULT's place; 20 when all are blanks. */
    private static int firstWord(ClauseKernel kernel) {
        kernel.end(20);
        kernel.run();
        return kernel.fault(1);
    }

    private static void feed() {
        KIT.sentence("2: Twenty bytes wait, those of a first, the highest of each first");
        int blank = 0x20202020;
        for (int k = 0; k < 20; k++) {
            ClauseKernel kernel = new ClauseKernel();
            int[] five = {blank, blank, blank, blank, blank};
            five[k / 4] ^= 0xff << 24 - 8 * (k % 4);
            kernel.feed(five[0], five[1], five[2], five[3], five[4]);
            KIT.due("byte " + k, firstWord(kernel), k);
        }
        ClauseKernel kernel = new ClauseKernel();
        kernel.feed(blank, blank, blank, blank, blank);
        KIT.due("all blank", firstWord(kernel), 20);
        kernel.feed(LEAST, -1, MOST, 0, 1);
        KIT.due("a byte of 128", firstWord(kernel), 0);
        kernel.feed(-1, -1, -1, -1, -1);
        kernel.feed(blank, blank, blank, blank, blank - 1);
        KIT.due("the latest feed", firstWord(kernel), 19);
        KIT.sentence("2: They are 0 at first, and behind each end() that is not refused");
        ClauseKernel fresh = new ClauseKernel();
        KIT.due("end(1)", fresh.end(1), 1);
        fresh.run();
        KIT.due("a byte of 0", fresh.fault(0), 1);
        KIT.due("its place", fresh.fault(1), 0);
        for (int n : new int[] {0, 1, 19, 20}) {
            fresh.feed(blank, blank, blank, blank, blank);
            KIT.due("end(" + n + ")", fresh.end(n), n);
            KIT.due("end(20)", fresh.end(20), n + 20);
            fresh.run();
            KIT.due("the bytes behind are 0", fresh.fault(1), n);
        }
        for (int k = 0; k < 5; k++) {
            int[] five = new int[5];
            five[k] = 0x0a0a0a23;
            five[0] |= 0x3b000000;
            fresh.feed(five[0], five[1], five[2], five[3], five[4]);
            fresh.end(1);
            KIT.due("bytes of 0 end no line, so that all is a blank", firstWord(fresh), 21);
            KIT.due("its FAULT", fresh.fault(0), 3);
        }
        for (int n : new int[] {-1, 21, LEAST, MOST}) {
            fresh.feed(blank, blank, blank, blank, blank);
            KIT.due("end(" + n + ")", fresh.end(n), -1);
            KIT.due("a refused end leaves them", firstWord(fresh), 20);
        }
    }

    private static void end() {
        KIT.sentence("3: The first n of the bytes that wait come behind the TEXT: how many it has");
        ClauseKernel kernel = new ClauseKernel();
        int due = 0;
        for (int n = 0; n <= 20; n++) {
            due += n;
            KIT.due("end(" + n + ")", kernel.end(n), due);
        }
        KIT.sentence("3: NONE, refused, when n isn't 0 .. 20, or there would be more than 3000");
        for (int n : new int[] {-1, 21, -20, 256, LEAST, MOST, MOST - 2999}) {
            KIT.due("end(" + n + ")", kernel.end(n), -1);
            KIT.due("end(0)", kernel.end(0), due);
        }
        for (int left = 0; left <= 20; left++) {
            ClauseKernel full = new ClauseKernel();
            Kit.bring(full, Kit.times(3000 - left, " "));
            full.feed(0x20202020, 0x20202020, 0x20202020, 0x20202020, 0x20202020);
            if (left < 20) {
                KIT.due("3001", full.end(left + 1), -1);
                KIT.due("3000 and more", full.end(20), -1);
            }
            KIT.due("3000", full.end(left), 3000);
            KIT.due("3000 and 1", full.end(1), -1);
            KIT.due("3000 and none", full.end(0), 3000);
            full.run();
            KIT.due("a refused end leaves the TEXT and the bytes", full.fault(1), 3000);
            KIT.due("run() empties it", full.end(20), 20);
        }
    }

    private static void fuel() {
        KIT.sentence("4: The FUEL of commands to come: what it was. NONE, refused, when n isn't 1 .. 1000");
        ClauseKernel kernel = new ClauseKernel();
        int was = 1000;
        for (int n : new int[] {0, 1, 1001, 2, -1, 999, LEAST, 1000, MOST, 1000, 1}) {
            boolean fine = n >= 1 && n <= 1000;
            KIT.due("fuel(" + n + ")", kernel.fuel(n), fine ? was : -1);
            was = fine ? n : was;
        }
        Kit.bring(kernel, "(clause (swap (same x)))");
        kernel.fuel(2);
        KIT.due("of the commands to come", kernel.run(), 0);
        kernel.fuel(1);
        KIT.due("steps() of the one that was", kernel.steps(), 2);
    }

    private static void run() {
        KIT.sentence("5: The TEXT, which is empty then, is read and done: the ANSWER");
        ClauseKernel kernel = KIT.told("(defun f (x) x)");
        String[] texts = {"(undo nil", "(undo nil)", "(defun f (x) x)", "(clause (same " + Kit.wide(60, "x") + "))",
            "(clause nonsense)", "(clause (same x))", ""};
        int[] answers = {1, 2, 3, 4, 7, 0, 1};
        for (int k = 0; k < texts.length; k++) {
            KIT.due(texts[k], Kit.say(kernel, texts[k]), answers[k]);
            KIT.due("end(0)", kernel.end(0), 0);
        }
        kernel.feed(0x28756e64, 0x6f290000, 0, 0, 0);
        kernel.run();
        KIT.due("the bytes wait on", kernel.end(6), 6);
        KIT.due("(undo)", kernel.run(), 0);
    }

    private static void fault() {
        KIT.sentence("6: each 0 without one (the place NONE), or before. NONE for another what");
        ClauseKernel kernel = new ClauseKernel();
        String[] texts = {null, "(undo", "(undo)", "#", "(clause (swap (same x)))", "(nope)", "abcdefghijkl", "(clause x)", ""};
        int[][] due = {{0, -1, 0}, {3, 5, 0}, {0, -1, 0}, {1, 0, 0}, {0, -1, 1}, {0, -1, 0}, {2, 0, 0}, {0, -1, 0}, {3, 0, 0}};
        kernel.fuel(1);
        for (int k = 0; k < texts.length; k++) {
            if (texts[k] != null) {
                Kit.say(kernel, texts[k]);
            }
            for (int what = 0; what < 3; what++) {
                KIT.due("fault(" + what + ") after " + texts[k], kernel.fault(what), due[k][what]);
            }
            for (int what : new int[] {-1, 3, 4, LEAST, MOST}) {
                KIT.due("fault(" + what + ")", kernel.fault(what), -1);
            }
        }
    }

    private static void steps() {
        KIT.sentence("7: How many STEPS the latest run() made (with OUT OF FUEL its FUEL)");
        ClauseKernel kernel = new ClauseKernel();
        KIT.due("before", kernel.steps(), 0);
        String proof = "(swap (swap (swap (same x))))";
        for (int fuel = 1; fuel <= 5; fuel++) {
            kernel.fuel(fuel);
            KIT.due("run()", Kit.say(kernel, "(clause " + proof + ")"), fuel < 4 ? 4 : 0);
            KIT.due("steps()", kernel.steps(), Math.min(fuel, 4));
            KIT.due("run()", Kit.say(kernel, "(check a (equal y y) " + proof + ")"), fuel < 4 ? 4 : 7);
            KIT.due("steps()", kernel.steps(), Math.min(fuel, 4));
        }
        for (String text : new String[] {"", "(nope)", "(undo)", "(check car x " + proof + ")", "(defun f (x) x)"}) {
            Kit.say(kernel, "(clause (same x))");
            KIT.due("steps()", kernel.steps(), 1);
            Kit.say(kernel, text);
            KIT.due("steps() of " + text, kernel.steps(), 0);
        }
    }

    private static void count() {
        KIT.sentence("8: the literals of the latest run() that was a clause command and had ANSWER 0 (2; 0 before). "
                + "NONE for another what");
        ClauseKernel kernel = KIT.told(Kit.BAD);
        KIT.due("count(2) before", kernel.count(2), 0);
        Kit.say(kernel, "(clause (swap (taut x)))");
        KIT.due("count(2) with ANSWER 7", kernel.count(2), 0);
        Kit.say(kernel, "(check a (equal x x) (same x))");
        KIT.due("count(2) after a check", kernel.count(2), 0);
        Kit.say(kernel, "(clause (taut x))");
        KIT.due("count(2)", kernel.count(2), 2);
        for (String text : new String[] {"", "(nope)", "(undo)", "(defun bad (x) x)", "(clause x)", "(clause)",
            "(clause (same " + Kit.wide(60, "x") + "))", "(check b x (same x))", "(check b (equal x x) (same x))"}) {
            Kit.say(kernel, text);
            KIT.due("count(2) after " + text, kernel.count(2), 2);
        }
        Kit.say(kernel, "(clause " + Kit.EMPTY + ")");
        KIT.due("count(2) of none", kernel.count(2), 0);
        Kit.say(kernel, "(clause (weak (" + String.join(" ", Kit.variables(29)) + ") (same x)))");
        KIT.due("count(2) of most", kernel.count(2), 30);
        KIT.due("count(0)", kernel.count(0), 1);
        KIT.due("count(1)", kernel.count(1), 1);
        for (int what : new int[] {-1, 3, 4, LEAST, MOST}) {
            KIT.due("count(" + what + ")", kernel.count(what), -1);
        }
    }

    /** A kernel whose OUT has as many characters as are asked, from 8 on. */
    private static ClauseKernel out(int size) {
        ClauseKernel kernel = new ClauseKernel();
        String object = "(" + Kit.times((size - 4) / 4, "abc ") + "xyzxyz".substring(0, 2 + (size - 4) % 4) + ")";
        KIT.due("run()", Kit.say(kernel, "(clause " + object + ")"), 7);
        return kernel;
    }

    private static void size() {
        KIT.sentence("9: How many characters OUT has");
        KIT.due("size() at first", new ClauseKernel().size(), 0);
        for (int size : new int[] {8, 9, 1998, 1999, 2000}) {
            KIT.due("size()", out(size).size(), size);
        }
        for (int size : new int[] {2001, 2002, 2500, 2900}) {
            KIT.due("size()", out(size).size(), 2000);
        }
    }

    private static void letter() {
        KIT.sentence("10: Character k of OUT; NONE when there is none");
        for (int size : new int[] {8, 1999, 2000, 2001}) {
            ClauseKernel kernel = out(size);
            int last = Math.min(size, 2000) - 1;
            KIT.due("letter(0)", kernel.letter(0), (int) '(');
            KIT.due("the last letter", kernel.letter(last), size > 2000 ? (int) 'z' : (int) ')');
            for (int k : new int[] {-1, last + 1, last + 2, LEAST, MOST}) {
                KIT.due("letter(" + k + ")", kernel.letter(k), -1);
            }
        }
        ClauseKernel kernel = new ClauseKernel();
        for (int k : new int[] {-1, 0, 1, LEAST, MOST}) {
            KIT.due("letter(" + k + ") at first", kernel.letter(k), -1);
        }
    }

    private static void tell() {
        KIT.sentence("11: OUT becomes the k-th thing that was taken (from 0 on, those that are gone left out)");
        ClauseKernel kernel = KIT.told("(defun f (x) '7)", "(check a (equal '7 7) (same 7))", "(defun g () nil)");
        String[] due = {"(defun f (x) 7)", "(theorem a (equal 7 7))", "(defun g nil nil)"};
        for (int k = 0; k < 3; k++) {
            KIT.due("tell(" + k + ")", kernel.tell(k), due[k].length());
            KIT.due("OUT", Kit.out(kernel), due[k]);
        }
        KIT.sentence("11: NONE, and OUT stays, when there is none");
        for (int k : new int[] {-1, 3, 4, LEAST, MOST}) {
            KIT.due("tell(" + k + ")", kernel.tell(k), -1);
            KIT.due("OUT", Kit.out(kernel), due[2]);
        }
        Kit.say(kernel, "(undo)");
        KIT.due("tell(2)", kernel.tell(2), -1);
        KIT.due("OUT", Kit.out(kernel), "");
        KIT.due("tell(1)", kernel.tell(1), due[1].length());
        KIT.due("tell(2)", kernel.tell(2), -1);
        KIT.due("OUT", Kit.out(kernel), due[1]);
        Kit.say(kernel, "(defun h (x) x)");
        KIT.due("tell(2)", kernel.tell(2), 15);
        KIT.sentence("11: how many characters (OUT has at most 2000)");
        for (int length = 1999; length <= 2002; length++) {
            ClauseKernel other = new ClauseKernel();
            String front = "(defun f (x) '(" + Kit.times(197, "123456789 ");
            String text = front + Kit.times(length - front.length() - 2, "x").replaceAll("x{8}", "xxxxxxx ") + "))";
            KIT.due("its length", text.length(), length);
            KIT.due("it is taken", Kit.say(other, text), 0);
            KIT.due("tell(0)", other.tell(0), Math.min(length, 2000));
            KIT.due("size()", other.size(), Math.min(length, 2000));
            KIT.due("OUT", Kit.out(other), text.substring(0, Math.min(length, 2000)));
        }
    }

    private static int used;

    /** Says a text and counts the calls. */
    private static int say(ClauseKernel kernel, String text) {
        used += 2 * ((text.length() + 19) / 20) + 1;
        return Kit.say(kernel, text);
    }

    private static void calls() {
        KIT.sentence("An object is used for at most 512 calls: as much as can be taken in these");
        ClauseKernel kernel = new ClauseKernel();
        String names = "abcdefghijklmnopqrstuvwxyz0123456789+-*/<>=?!_";
        for (int k = 0; k < 40; k++) {
            KIT.due("defun " + k, say(kernel, "(defun z" + names.charAt(k) + "()" + k + ")"), 0);
        }
        for (int k = 0; k < 60; k++) {
            KIT.due("check " + k, say(kernel, "(check y" + (k + 100) + "(equal 0 0)(same 0))"), 0);
        }
        KIT.due("tell(99)", kernel.tell(99), 26);
        KIT.due("tell(100)", kernel.tell(100), -1);
        KIT.due("tell(39)", kernel.tell(39), 17);
        KIT.due("defun", say(kernel, "(defun f()0)"), 8);
        KIT.due("check", say(kernel, "(check n 0 0)"), 8);
        KIT.due("count(0)", kernel.count(0), 40);
        KIT.due("count(1)", kernel.count(1), 60);
        KIT.due("undo", say(kernel, "(undo)"), 0);
        KIT.due("tell(99)", kernel.tell(99), -1);
        used += 6;
        for (; used < 511; used++) {
            KIT.due("tell(98)", kernel.tell(98), 26);
        }
        KIT.due("the 512th call", kernel.size(), 26);
    }
}
