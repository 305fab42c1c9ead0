import java.util.ArrayList;
import java.util.List;

/** What the tests have in common: saying a text to a kernel, and counting what is not as due. */
final class Kit {
    /** A function that has no values by its body, and by it a proof whose clause has no literal at all. */
    static final String BAD = "(defun bad (x) (not (bad x)))";
    static final String EMPTY = "(cut (bad x) (put (swap (def bad)) (taut (bad x))) "
            + "(put (def bad) (put (swap (def bad)) (taut (bad x)))))";

    private final String name;
    private String sentence = "";
    private int wrong;
    private int asked;

    Kit(String name) {
        this.name = name;
    }

    /** The sentence of the document that is asked from here on. */
    void sentence(String words) {
        sentence = " [" + words + "]";
    }

    /** Brings a text, in pieces of twenty bytes, without running it. */
    static void bring(ClauseKernel kernel, String text) {
        for (int start = 0; start < text.length(); start += 20) {
            int length = Math.min(20, text.length() - start);
            int[] five = new int[5];
            for (int k = 0; k < length; k++) {
                five[k / 4] |= (text.charAt(start + k) & 255) << 24 - 8 * (k % 4);
            }
            kernel.feed(five[0], five[1], five[2], five[3], five[4]);
            kernel.end(length);
        }
    }

    static int say(ClauseKernel kernel, String text) {
        bring(kernel, text);
        return kernel.run();
    }

    static String out(ClauseKernel kernel) {
        StringBuilder all = new StringBuilder();
        for (int k = 0; k < kernel.size(); k++) {
            all.append((char) kernel.letter(k));
        }
        return all.toString();
    }

    /** A kernel to which some texts were said, each of which must be done. */
    ClauseKernel told(String... texts) {
        ClauseKernel kernel = new ClauseKernel();
        for (String text : texts) {
            due(text, say(kernel, text), 0);
        }
        return kernel;
    }

    void answers(ClauseKernel kernel, String text, int answer, String out) {
        due(text, say(kernel, text), answer);
        due("OUT of " + text, out(kernel), out);
    }

    /** The clause of a proof. */
    void clause(ClauseKernel kernel, String proof, String clause) {
        answers(kernel, "(clause " + proof + ")", 0, clause);
    }

    /** A proof that has a clause, whichever that is. */
    void fine(ClauseKernel kernel, String proof) {
        due(proof, say(kernel, "(clause " + proof + ")"), 0);
    }

    /** A proof that is wrong itself, each of its parts being right. */
    void itself(ClauseKernel kernel, String proof) {
        wrong(kernel, proof, proof);
    }

    /** A proof that is wrong, and which part of it is told. */
    void wrong(ClauseKernel kernel, String proof, String part) {
        answers(kernel, "(clause " + proof + ")", 7, part);
    }

    /** A proof that has a FAULT OF WORK. */
    void work(ClauseKernel kernel, String proof, int fault) {
        answers(kernel, "(clause " + proof + ")", 4, "");
        due("fault(2) of " + proof, kernel.fault(2), fault);
    }

    void tooBig(ClauseKernel kernel, String proof) {
        work(kernel, proof, 4);
    }

    /** A text that has a FAULT of READING. */
    void unread(ClauseKernel kernel, String text, int fault, int place) {
        answers(kernel, text, 1, "");
        due("fault(0) of " + text, kernel.fault(0), fault);
        due("fault(1) of " + text, kernel.fault(1), place);
    }

    void due(String what, Object got, Object want) {
        asked++;
        if (!got.equals(want)) {
            wrong++;
            System.out.println(name + sentence + ": " + brief(what) + " answered " + brief(got) + ", due is "
                    + brief(want));
        }
    }

    private static String brief(Object what) {
        String all = what.toString();
        return all.length() <= 300 ? all : all.substring(0, 200) + " .. " + all.substring(all.length() - 60);
    }

    void end() {
        System.out.println(name + ": " + asked + " asked, " + wrong + " not as due");
        if (wrong != 0) {
            System.exit(1);
        }
    }

    static String times(int n, String text) {
        return text.repeat(Math.max(n, 0));
    }

    /** A term of a SIZE: calls of one function around a variable. */
    static String tower(String function, int size, String inside) {
        return times(size - 1, "(" + function + " ") + inside + times(size - 1, ")");
    }

    /** A term of a SIZE of at least 1 that is only some calls deep. */
    static String wide(int size, String leaf) {
        if (size == 1) {
            return leaf;
        }
        if (size == 2) {
            return "(not " + leaf + ")";
        }
        int left = (size - 1) / 2;
        return "(cons " + wide(left, leaf) + " " + wide(size - 1 - left, leaf) + ")";
    }

    static List<String> variables(int n) {
        List<String> all = new ArrayList<>();
        for (int k = 0; k < n; k++) {
            all.add("v" + k);
        }
        return all;
    }
}
