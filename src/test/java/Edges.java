import java.io.IOException;
import java.lang.reflect.InvocationTargetException;
import java.lang.reflect.Method;
import java.util.Arrays;
import java.util.Comparator;
import java.util.List;

/** Runs each method that bears a Holds as a test of its own, and sees that the document says what it names. */
abstract class Edges {
    static final int NONE = LaneWarps.NONE;
    static final int NOTHING = LaneWarps.NOTHING;
    static final int LEAST = Integer.MIN_VALUE;
    static final int GREATEST = Integer.MAX_VALUE;
    /** Goes on for ever, a LINE a CYCLE. */
    static final String FOREVER = "warps 1;x:go x;";

    private final Check check = new Check();

    static List<Method> tests(Class<?> of) {
        return Arrays.stream(of.getDeclaredMethods())
                .filter(method -> method.isAnnotationPresent(Holds.class))
                .sorted(Comparator.comparing(Method::getName))
                .toList();
    }

    void runAll() throws IOException, ReflectiveOperationException {
        Document document = Document.read();
        List<Method> tests = tests(getClass());
        for (Method test : tests) {
            Holds holds = test.getAnnotation(Holds.class);
            check.about(holds.at() + " \"" + holds.says() + "\" (" + test.getName() + ")");
            if (document != null) {
                same("the document says so", document.says(holds.at(), holds.says()), true);
            }
            runOne(test);
        }
        check.close(getClass().getSimpleName() + ", " + tests.size() + " tests");
    }

    private void runOne(Method test) throws IllegalAccessException {
        int before = check.asked();
        try {
            test.invoke(this);
            same("it asks something", check.asked() > before, true);
        } catch (InvocationTargetException thrown) {
            thrown.getCause().printStackTrace(System.out);
            same("nothing is thrown", false, true);
        }
    }

    void same(String call, long got, long due) {
        check.same(call, got, due);
    }

    void same(String call, boolean got, boolean due) {
        check.same(call, got, due);
    }

    void fine(String text, int lines) {
        LaneWarps x = new LaneWarps();
        same("program() of " + text, Check.tell(x, text), lines);
        same("fault(0) of " + text, x.fault(0), 0);
        same("fault(1) of " + text, x.fault(1), NONE);
    }

    void wrong(String text, int fault, int place) {
        LaneWarps x = new LaneWarps();
        same("program() of " + text, Check.tell(x, text), NONE);
        same("fault(0) of " + text, x.fault(0), fault);
        same("fault(1) of " + text, x.fault(1), place);
    }

    /** Behind "warps 1;", whose length is 8: the place counts from there on. */
    void wrongLine(String line, int fault, int place) {
        wrong("warps 1;" + line, fault, 8 + place);
    }

    void fineLine(String line, int lines) {
        fine("warps 1;" + line, lines);
    }

    static LaneWarps with(String text) {
        return Check.with(text);
    }

    static LaneWarps behind(int cycles, String text) {
        LaneWarps x = Check.with(text);
        x.cycles(cycles);
        return x;
    }

    /** Brings one that stands at BEGIN to a CYCLE up to 9999. */
    static void bringTo(LaneWarps x, int cycle) {
        for (int left = cycle; left > 0; left -= 400) {
            x.cycles(Math.min(left, 400));
        }
    }

    /** The registers of a LANE, from a on. */
    void registers(LaneWarps x, int warp, int lane, int... due) {
        for (int r = 0; r < due.length; r++) {
            same("lane(" + warp + ", " + lane + ", " + r + ")", x.lane(warp, lane, r), due[r]);
        }
    }

    /** One register of LANES 0 .. 7 of WARP 0. */
    void eachLane(LaneWarps x, int register, int... due) {
        for (int lane = 0; lane < due.length; lane++) {
            same("lane(0, " + lane + ", " + register + ")", x.lane(0, lane, register), due[lane]);
        }
    }

    /** LINE, where it MEETS, LANES of each PART of WARP 0, the lowest first. */
    void stack(LaneWarps x, int... due) {
        same("warp(0, 2)", x.warp(0, 2), due.length / 3);
        for (int k = 0; k < due.length; k++) {
            same("part(0, " + k / 3 + ", " + k % 3 + ")", x.part(0, k / 3, k % 3), due[k]);
        }
    }

    void goes(LaneWarps x, int how, int cycles, int round) {
        same("goes(0)", x.goes(0), how);
        same("goes(1)", x.goes(1), cycles);
        same("goes(2)", x.goes(2), round);
    }

    /** What can be asked of the state, so that it can be seen that a refused call changes none of it. */
    static String look(LaneWarps x) {
        StringBuilder s = new StringBuilder();
        for (int what = 0; what < 14; what++) {
            s.append(x.has(what)).append(' ');
        }
        for (int k = 0; k < 64; k += 7) {
            s.append(x.word(false, k)).append(' ').append(x.word(true, k / 2)).append(' ');
        }
        for (int what = 0; what < 7; what++) {
            s.append(x.lane(0, 0, what)).append(' ').append(x.lane(0, 7, what)).append(' ').append(x.warp(0, what)).append(' ');
        }
        return s.append(x.part(0, 0, 0)).append(' ').append(x.kept(0, 0)).append(' ').append(x.line(0, 0)).toString();
    }
}
