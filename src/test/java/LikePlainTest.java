import java.util.Random;

/** The same random calls on LaneWarps and on PlainWarps: all answers must be the same. */
public final class LikePlainTest {
    private static final String[] REGISTERS = {"a", "b", "c", "d"};
    private static final String[] NAMES = {"x", "y", "z", "loop", "Loop", "abcdef"};
    private static final String BYTES = "abcdxyzAZ019 ;:<=>!\n-\u00e9\t";

    private final Random random;
    private final Check check = new Check();
    private final LaneWarps x = new LaneWarps();
    private final PlainWarps p = new PlainWarps();

    private LikePlainTest(long seed) {
        random = new Random(seed);
        check.about("seed " + seed);
    }

    public static void main(String[] args) {
        int from = args.length > 0 ? Integer.parseInt(args[0]) : 0;
        int to = args.length > 1 ? Integer.parseInt(args[1]) : 300;
        int bad = 0;
        for (int seed = from; seed < to; seed++) {
            LikePlainTest test = new LikePlainTest(seed);
            test.run();
            if (!test.check.isFine()) {
                bad++;
            }
        }
        System.out.println("LikePlainTest: " + (to - from) + " runs, " + bad + " unlike");
        if (bad != 0) {
            System.exit(1);
        }
    }

    private int upTo(int n) {
        return random.nextInt(n);
    }

    private String register() {
        return REGISTERS[upTo(4)];
    }

    private String value() {
        if (upTo(3) > 0) {
            return register();
        }
        return "" + (upTo(4) == 0 ? upTo(1000) : upTo(10));
    }

    private String aim(int names) {
        return NAMES[upTo(names)];
    }

    private String operation(int names) {
        switch (upTo(22)) {
            case 0: return "set " + register() + " " + value();
            case 1: return "add " + register() + " " + value() + " " + value();
            case 2: return "sub " + register() + " " + value() + " 1";
            case 3: return "mul " + register() + " " + value() + " " + value();
            case 4: return "rem " + register() + " " + value() + " " + value();
            case 5:
            case 6: return "lane " + register();
            case 7: return "warp " + register();
            case 8:
            case 9: return "load " + register() + " " + value();
            case 10: return "store " + value() + " " + value();
            case 11: return "get " + register() + " " + value();
            case 12: return "put " + value() + " " + value();
            case 13: return "swap " + register() + " " + value();
            case 14: return "go " + aim(names);
            case 15:
            case 16:
            case 17:
            case 18: return "go " + aim(names) + " if " + value() + " " + "<=>".charAt(upTo(3)) + value();
            case 19: return "bar";
            case 20: return "yield";
            default: return upTo(2) == 0 ? "end" : "yield";
        }
    }

    private String text() {
        StringBuilder s = new StringBuilder("warps " + (1 + (upTo(2) == 0 ? 0 : upTo(4))) + ";");
        int names = 1 + upTo(NAMES.length);
        int lines = names + 1 + upTo(upTo(4) == 0 ? 33 : 10);
        int told = 0;
        for (int k = 0; k < lines; k++) {
            if (upTo(5) == 0) {
                s.append("word ").append(upTo(2) == 0 ? upTo(8) : upTo(64)).append(' ').append(upTo(12)).append(";");
            }
            if (upTo(12) == 0) {
                s.append(upTo(2) == 0 ? "mode fair;" : "mode stack;");
            }
            if (upTo(12) == 0) {
                s.append(upTo(2) == 0 ? "order age;" : "order turns;");
            }
            if (told < names && (upTo(lines) < names || lines - k <= names - told)) {
                s.append(NAMES[told]).append(upTo(2) == 0 ? " : " : ":");
                told++;
            }
            s.append(k == 0 && upTo(3) > 0 ? "lane a" : operation(names)).append(upTo(4) == 0 ? " ;\n" : ";");
        }
        return s.toString();
    }

    private String spoiled(String text) {
        StringBuilder s = new StringBuilder(text);
        for (int k = upTo(3); k >= 0 && s.length() > 0; k--) {
            int at = upTo(s.length());
            char sign = BYTES.charAt(upTo(BYTES.length()));
            switch (upTo(4)) {
                case 0: s.insert(at, sign); break;
                case 1: s.setCharAt(at, sign); break;
                case 2: s.deleteCharAt(at); break;
                default: s.setLength(Math.max(1, at)); break;
            }
        }
        return s.toString();
    }

    private void tell() {
        String text = text();
        if (upTo(3) == 0) {
            text = spoiled(text);
        }
        for (int from = 0; from < text.length(); from += 20) {
            int[] n = Check.numbers(text, from);
            check.same("feed", x.feed(n[0], n[1], n[2], n[3], n[4]), p.feed(n));
        }
        check.same("end(" + text.length() + ")", x.end(text.length()), p.end(text.length()));
        check.same("program() of " + text, x.program(), p.program());
        for (int what = -1; what < 3; what++) {
            check.same("fault(" + what + ") of " + text, x.fault(what), p.fault(what));
        }
    }

    private void run() {
        int calls = 0;
        tell();
        while (calls < 120 && check.isFine()) {
            switch (upTo(12)) {
                case 0:
                case 1:
                case 2:
                case 3:
                case 4: act(); break;
                case 5: ask(); break;
                case 6: foresee(); break;
                case 7:
                    if (upTo(10) == 0) {
                        tell();
                    }
                    break;
                default: look(); break;
            }
            calls++;
        }
        lookAtAll();
    }

    private void act() {
        int n = upTo(20) == 0 ? upTo(403) : upTo(12);
        switch (upTo(12)) {
            case 0: {
                boolean near = upTo(2) == 0;
                int k = upTo(68) - 2;
                int value = upTo(8) == 0 ? upTo(30000) - 15000 : upTo(10);
                check.same("poke", x.poke(near, k, value), p.poke(near, k, value));
                break;
            }
            case 1: {
                int mode = upTo(2);
                int order = upTo(2);
                int skew = upTo(5) - (upTo(9) == 0 ? 1 : 0);
                check.same("set", x.set(mode, order, skew), p.set(mode, order, skew));
                break;
            }
            case 2: check.same("begin", x.begin(), p.begin()); break;
            case 3: {
                int times = upTo(10) == 0 ? upTo(23) - 1 : 1 + upTo(4);
                check.same("chance", x.chance(times), p.chance(times));
                break;
            }
            case 4: check.same("undo", x.undo(), p.undo()); break;
            case 5: {
                int seed = upTo(6) == 0 ? random.nextInt() : upTo(100);
                check.same("seed", x.seed(seed), p.seed(seed));
                break;
            }
            default: check.same("cycles(" + n + ")", x.cycles(n), p.cycles(n)); break;
        }
    }

    private void look() {
        int k = upTo(7) - 1;
        int what = upTo(9) - 1;
        int lane = upTo(10) - 1;
        int word = upTo(70) - 2;
        boolean near = upTo(2) == 0;
        int has = upTo(16) - 1;
        check.same("has(" + has + ")", x.has(has), p.has(has));
        check.same("line", x.line(lane, what), p.line(lane, what));
        check.same("lane(" + k + ", " + lane + ", " + what + ")", x.lane(k, lane, what), p.lane(k, lane, what));
        check.same("warp(" + k + ", " + what + ")", x.warp(k, what), p.warp(k, what));
        check.same("part(0, " + k + ", " + what + ")", x.part(0, k, what), p.part(0, k, what));
        check.same("word(" + near + ", " + word + ")", x.word(near, word), p.word(near, word));
        check.same("raced(" + near + ", " + word + ")", x.raced(near, word), p.raced(near, word));
        check.same("kept(" + lane + ", " + what + ")", x.kept(lane, what), p.kept(lane, what));
        check.same("next(" + what + ")", x.next(what), p.next(what));
        check.same("status(" + what + ")", x.status(what), p.status(what));
    }

    private void lookAtAll() {
        for (int what = -1; what < 15; what++) {
            check.same("has(" + what + ")", x.has(what), p.has(what));
        }
        for (int line = -1; line < 42; line++) {
            for (int what = -1; what < 8; what++) {
                check.same("line(" + line + ", " + what + ")", x.line(line, what), p.line(line, what));
            }
        }
        for (int warp = -1; warp < 5; warp++) {
            for (int what = -1; what < 8; what++) {
                check.same("warp", x.warp(warp, what), p.warp(warp, what));
                for (int lane = -1; lane < 9; lane++) {
                    check.same("lane", x.lane(warp, lane, what), p.lane(warp, lane, what));
                }
                for (int k = -1; k < 17; k++) {
                    check.same("part", x.part(warp, k, what), p.part(warp, k, what));
                }
            }
        }
        for (int k = -1; k < 66; k++) {
            check.same("word", x.word(false, k), p.word(false, k));
            check.same("word", x.word(true, k), p.word(true, k));
            check.same("raced", x.raced(false, k), p.raced(false, k));
            check.same("raced", x.raced(true, k), p.raced(true, k));
        }
        for (int k = -1; k < 32; k++) {
            for (int what = -1; what < 6; what++) {
                check.same("kept", x.kept(k, what), p.kept(k, what));
            }
        }
    }

    private void foresee() {
        for (int what = -1; what < 4; what++) {
            check.same("goes(" + what + ")", x.goes(what), p.goes(what));
            check.same("next(" + what + ")", x.next(what), p.next(what));
        }
        int n = upTo(6) == 0 ? upTo(403) - 1 : upTo(30);
        int lane = upTo(8);
        int warp = upTo(3);
        int register = upTo(5);
        check.same("later", x.later(n, warp, lane, register), p.later(n, warp, lane, register));
    }

    private void ask() {
        int what = upTo(5) - 1;
        switch (upTo(24)) {
            case 0: check.same("tells", x.tells(what), p.tells(what)); break;
            case 1:
            case 2: {
                int word = upTo(70) - 2;
                int cycles = upTo(6) == 0 ? upTo(403) - 1 : 4 + upTo(40);
                int k = upTo(5) - 2;
                check.same("likely", x.likely(word, cycles, k), p.likely(word, cycles, k));
                int begun = p.by(p.has(10), p.has(11), 1);
                check.same("likely", x.likely(0, begun, k), p.likely(0, begun, k));
                break;
            }
            case 3:
            case 4:
            case 5: check.same("agrees", x.agrees(), p.agrees()); break;
            case 6:
            case 7:
            case 8:
            case 9: check.same("skew(" + what + ")", x.skew(what), p.skew(what)); break;
            case 10:
            case 11:
            case 12:
            case 13: {
                int mode = upTo(4) - 1;
                int order = upTo(4) - 1;
                check.same("by(" + mode + ", " + order + ", " + what + ")", x.by(mode, order, what), p.by(mode, order, what));
                break;
            }
            default: {
                int lane = upTo(10) - 1;
                int warp = upTo(6) - 1;
                int of = upTo(7) - 1;
                check.same("alone", x.alone(warp, lane, of), p.alone(warp, lane, of));
                break;
            }
        }
    }
}
