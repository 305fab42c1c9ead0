/** Promise 2: feed. */
public final class FeedTest {
    public static void main(String[] args) {
        Kit kit = new Kit("FeedTest");
        ClauseKernel kernel = new ClauseKernel();

        kernel.feed(0x28756e64, 0x6f290a20, 0, 0, 0);
        kit.due("the bytes of a first, the highest first", kernel.end(6), 6);
        kit.due("(undo)", kernel.run(), 3);

        kernel.feed(0x28756e64, 0x6f290a20, 0x20202020, 0x0a0a0a0a, 0x20203b3b);
        kit.due("all twenty", kernel.end(20), 20);
        kit.due("(undo) and blanks", kernel.run(), 3);

        kernel.feed(0x58585858, 0x58585858, 0, 0, 0);
        kernel.feed(0x28756e64, 0x6f292020, 0x20202020, 0x20202020, 0x20202023);
        kit.due("the latest feed counts", kernel.end(19), 19);
        kit.due("the twentieth byte was left out", kernel.run(), 3);

        kernel.feed(0x28756e64, 0x6f292020, 0x20202020, 0x20202020, 0x20202023);
        kernel.end(20);
        kit.due("the twentieth byte is the lowest of e", kernel.run(), 1);
        kit.due("its place", kernel.fault(1), 19);

        kernel.feed(0x28756e64, 0x6f292020, 0x20202020, 0x20202020, 0x20202020);
        kernel.end(20);
        kernel.end(1);
        kernel.run();
        kit.due("behind an end the bytes are 0", kernel.fault(0), 1);
        kit.due("and stand behind the others", kernel.fault(1), 20);

        kernel.feed(0x28756e64, 0x6f292020, 0, 0, 0);
        kit.due("refused", kernel.end(21), -1);
        kit.due("refused", kernel.end(-1), -1);
        kernel.end(6);
        kit.due("a refused end leaves the bytes", kernel.run(), 3);

        kernel.feed(0x28756e64, 0x6f292020, 0, 0, 0);
        kit.due("end(0)", kernel.end(0), 0);
        kernel.end(1);
        kernel.run();
        kit.due("end(0) is not refused: the bytes are 0", kernel.fault(0), 1);

        kernel.end(1);
        kernel.run();
        kit.due("a byte of 0 is no word", kernel.fault(0), 1);
        kernel.feed(0x28756e64, 0x6f29ff80, 0, 0, 0);
        kernel.end(8);
        kernel.run();
        kit.due("bytes above 127 are none either", kernel.fault(1), 6);
        kit.end();
    }
}
