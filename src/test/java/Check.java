import java.nio.charset.StandardCharsets;

/** What the tests share: counting wrong answers, and telling a program to an object as feed() and end() want it. */
final class Check {
    private int asked;
    private int wrong;
    private String about = "";

    void about(String what) {
        about = what;
    }

    void same(String call, long got, long due) {
        asked++;
        if (got != due) {
            wrong++;
            System.out.println(about + ": " + call + " answered " + got + ", due is " + due);
        }
    }

    void same(String call, boolean got, boolean due) {
        same(call, got ? 1 : 0, due ? 1 : 0);
    }

    int asked() {
        return asked;
    }

    boolean isFine() {
        return wrong == 0;
    }

    /** Ends the test, with exit code 1 if an answer was wrong. */
    void close(String test) {
        System.out.println(test + ": " + asked + " answers, " + wrong + " wrong");
        if (wrong != 0 || asked == 0) {
            System.exit(1);
        }
    }

    /** The numbers with which feed() lays twenty bytes of a text from a place on, blanks behind its end. */
    static int[] numbers(String text, int from) {
        byte[] bytes = text.getBytes(StandardCharsets.ISO_8859_1);
        int[] numbers = new int[5];
        for (int k = 0; k < 20; k++) {
            int sign = from + k < bytes.length ? bytes[from + k] & 255 : 32;
            numbers[k / 4] = numbers[k / 4] << 8 | sign;
        }
        return numbers;
    }

    static void lay(LaneWarps x, String text) {
        for (int from = 0; from < text.length(); from += 20) {
            int[] n = numbers(text, from);
            x.feed(n[0], n[1], n[2], n[3], n[4]);
        }
        x.end(text.length());
    }

    static int tell(LaneWarps x, String text) {
        lay(x, text);
        return x.program();
    }

    static LaneWarps with(String text) {
        LaneWarps x = new LaneWarps();
        if (tell(x, text) < 1) {
            throw new IllegalArgumentException("fault " + x.fault(0) + " at " + x.fault(1) + " of " + text);
        }
        return x;
    }
}
