import java.lang.management.ManagementFactory;
import java.util.Random;

/** No call throws, whatever it is asked, and none but the constructor makes objects: all calls live in one room. */
public final class RoomTest {
    private static final int[] EDGES = {Integer.MIN_VALUE, -1000000, -10000, -9999, -2, -1, 0, 1, 2, 3, 4, 5, 6, 7, 8, 13, 14,
        15, 16, 20, 21, 30, 31, 32, 39, 40, 63, 64, 399, 400, 401, 9999, 10000, 1000000, Integer.MAX_VALUE};
    private static final String[] TEXTS = {
        "warps 4;mode fair;order turns;lane a;x:add b b 1;rem b b 97;load c b;mul d b 9;store d a;put d c;get c b;swap b d;go x;",
        "warps 4;lane a;x:add b b 1;go y if a<4;bar;go x;y:yield;go x if b<9;swap d b;go x;",
        "warps 2;load a 0;x:sub a a 1;go x if a>0;load a 1;y:sub a a 1;go y if a>0;end;",
        "warps 1;x:add a a 1;rem a a 133;go x;",
        "warps 3;set e 1;",
        "warps 1;go x;end;",
    };
    private static final com.sun.management.ThreadMXBean BEAN =
            (com.sun.management.ThreadMXBean) ManagementFactory.getThreadMXBean();

    private final Random random = new Random(5);
    private final Check check = new Check();

    public static void main(String[] args) {
        RoomTest test = new RoomTest();
        test.makesNothing();
        test.neverThrows();
        test.check.close("RoomTest");
    }

    private static long made() {
        return BEAN.getThreadAllocatedBytes(Thread.currentThread().getId());
    }

    private void makesNothing() {
        check.about("room");
        int[][][] tapes = new int[TEXTS.length][][];
        for (int t = 0; t < TEXTS.length; t++) {
            tapes[t] = new int[(TEXTS[t].length() + 19) / 20][];
            for (int k = 0; k < tapes[t].length; k++) {
                tapes[t][k] = Check.numbers(TEXTS[t], 20 * k);
            }
        }
        made();
        long before = made();
        LaneWarps x = new LaneWarps();
        check.same("a new object is small", made() - before < 200000, true);
        before = made();
        long sum = 0;
        for (int round = 0; round < 3; round++) {
            for (int t = 0; t < tapes.length; t++) {
                for (int[] n : tapes[t]) {
                    x.feed(n[0], n[1], n[2], n[3], n[4]);
                }
                x.end(TEXTS[t].length());
                sum += x.program() + callAll(x, round);
            }
        }
        check.same("no call makes objects", made() - before < 20000, true);
        check.same("the sum is used", sum != 0, true);
    }

    private static long callAll(LaneWarps x, int k) {
        long sum = x.cycles(300) + x.goes(0) + x.goes(1) + x.goes(2) + x.later(400, 0, 3, 1) + x.agrees();
        sum += x.tells(0) + x.tells(1) + x.skew(0) + x.skew(1) + x.next(3) + x.has(4) + x.has(6);
        for (int mode = 0; mode < 2; mode++) {
            for (int order = 0; order < 2; order++) {
                sum += x.by(mode, order, 1);
                x.set(mode, order, k);
                sum += x.cycles(50) + x.goes(1);
            }
        }
        for (int word = 0; word < 64; word += 7) {
            sum += x.likely(word, 40, LaneWarps.NONE) + x.poke(false, word, word) + x.word(true, word / 2);
        }
        for (int lane = 0; lane < 8; lane++) {
            sum += x.alone(0, lane, 4) + x.lane(0, lane, 6) + x.kept(lane, 2) + x.part(0, lane, 1);
        }
        sum += x.chance(20);
        x.seed(k);
        x.undo();
        x.begin();
        return sum;
    }

    private int any() {
        return random.nextInt(3) == 0 ? EDGES[random.nextInt(EDGES.length)] : random.nextInt(12) - 2;
    }

    private void neverThrows() {
        check.about("never throws");
        int runs = 0;
        for (int run = 0; run < 300; run++) {
            LaneWarps x = new LaneWarps();
            for (int call = 0; call < 512; call++) {
                callOne(x);
                if (call % 50 == 10) {
                    Check.lay(x, TEXTS[random.nextInt(TEXTS.length)]);
                }
            }
            runs++;
        }
        check.same("runs", runs, 300);
    }

    private void callOne(LaneWarps x) {
        boolean near = random.nextBoolean();
        switch (random.nextInt(30)) {
            case 0: x.feed(random.nextInt(), any(), any(), random.nextInt(), any()); break;
            case 1: x.end(any()); break;
            case 2: x.program(); break;
            case 3: x.fault(any()); break;
            case 4: x.has(any()); break;
            case 5: x.line(any(), any()); break;
            case 6: x.lane(any(), any(), any()); break;
            case 7: x.warp(any(), any()); break;
            case 8: x.part(any(), any(), any()); break;
            case 9: x.word(near, any()); break;
            case 10: x.raced(near, any()); break;
            case 11: x.kept(any(), any()); break;
            case 12: x.next(any()); break;
            case 13: x.goes(any()); break;
            case 14: x.later(any(), any(), any(), any()); break;
            case 15: x.by(any(), any(), any()); break;
            case 16: x.skew(any()); break;
            case 17: x.alone(any(), any(), any()); break;
            case 18: x.agrees(); break;
            case 19: x.likely(any(), any(), any()); break;
            case 20: x.tells(any()); break;
            case 21: x.cycles(any()); break;
            case 22: x.poke(near, any(), any()); break;
            case 23: x.set(any(), any(), any()); break;
            case 24: x.begin(); break;
            case 25: x.chance(any()); break;
            case 26: x.undo(); break;
            case 27: x.seed(any()); break;
            case 28: x.status(any()); break;
            default: x.cycles(1 + random.nextInt(20)); break;
        }
    }
}
