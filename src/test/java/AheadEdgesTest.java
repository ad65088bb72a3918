import java.io.IOException;
import java.math.BigInteger;

/** Terms III and promises 14 to 22: the edges of how it goes on, from now or from BEGIN, and of what is drawn. */
public final class AheadEdgesTest extends Edges {
    /** Behind 2N + 1 CYCLES all of this is done, and "end" is next. */
    private static final String LOOP = "set b 1;x:add a a 1;go x if a<%d;";
    private static final String STUCK = "warps 1;lane a;go x if a<4;bar;x:end;";
    /** ENDS behind 4 CYCLES with 0 or 1 in word 0, and 2 more for each one more. */
    private static final String COUNT = "warps 1;load a 0;x:sub a a 1;go x if a>0;";

    public static void main(String[] args) throws IOException, ReflectiveOperationException {
        new AheadEdgesTest().runAll();
    }

    private static LaneWarps endsBehind400() {
        return with("warps 1;" + String.format(LOOP, 199) + "end;");
    }

    private static LaneWarps endsBehind401() {
        return with("warps 1;yield;" + String.format(LOOP, 199) + "end;");
    }

    private static LaneWarps stuckBehind(int cycles) {
        // the loop takes 2 * 197 + 1, then lane, go, bar
        return with("warps 1;" + "yield;".repeat(cycles - 398) + String.format(LOOP, 197) + "lane c;go y if c<4;bar;y:end;");
    }

    private static LaneWarps spinsBehind(int cycles) {
        // a round takes 3 * 133; the first CYCLE leads into it
        return with("warps 1;" + "set b 1;".repeat(cycles - 399) + "x:add a a 1;rem a a 133;go x;");
    }

    private void by(LaneWarps x, int mode, int order, int how, int cycles, int round) {
        String call = "by(" + mode + ", " + order + ", ";
        same(call + "0)", x.by(mode, order, 0), how);
        same(call + "1)", x.by(mode, order, 1), cycles);
        same(call + "2)", x.by(mode, order, 2), round);
    }

    // Terms III

    @Holds(at = "Terms III", says = "AHEAD is how it goes on, nothing else being done.")
    void aheadBehindEachAct() {
        LaneWarps x = with(COUNT);
        goes(x, 0, 5, NONE);
        x.poke(false, 0, 3);
        goes(x, 0, 9, NONE);
        same("later(4, 0, 0, 0)", x.later(4, 0, 0, 0), 2);
        x.cycles(1);
        goes(x, 0, 8, NONE);
        x.poke(false, 0, 9);
        goes(x, 0, 8, NONE);
        x.begin();
        goes(x, 0, 5, NONE);
        x.undo();
        goes(x, 0, 8, NONE);
        x.undo();
        x.undo();
        goes(x, 0, 9, NONE);
        same("has(2)", x.has(2), 0);
    }

    @Holds(at = "Terms III", says = "It ENDS, when no LANE LIVES;")
    void itEndsWithItsLastLane() {
        LaneWarps x = with("warps 4;lane a;go x if a<7;set b 1;x:end;");
        for (int left = 16; left >= 0; left--) {
            goes(x, 0, left, NONE);
            same("has(4) is 0", x.has(4) == 0, left == 0);
            x.cycles(1);
        }
        goes(x, 0, 0, NONE);
    }

    @Holds(at = "Terms III", says = "it is STUCK, when some LIVE, and none of these in any WARP will GO any more, however long it takes;")
    void itIsStuckOnlyWhenNoWarpWillGo() {
        // WARP 0 can't go behind its 5th LINE, WARP 1 has 4 LINES
        LaneWarps x = with("warps 2;warp b;lane a;go x if b=1;go x if a<4;bar;x:end;");
        goes(x, 1, 9, NONE);
        x.cycles(8);
        goes(x, 1, 1, NONE);
        x.cycles(1);
        goes(x, 1, 0, NONE);
        same("has(4)", x.has(4), 8);
        same("has(5)", x.has(5), 4);
    }

    @Holds(at = "Terms III", says = "none of these in any WARP will GO any more, however long it takes;")
    void oneThatIsNotReadyYetIsNotStuck() {
        LaneWarps x = behind(2, "warps 1;lane a;load b 0;end;");
        same("warp(0, 5)", x.warp(0, 5), 0);
        goes(x, 0, 3, NONE);
        // of two WARPS one can't go any more, the other one is not READY yet
        LaneWarps y = behind(9, "warps 2;warp b;lane a;go z if b=1;go x if a<4;bar;x:end;z:load c 0;end;");
        same("next(0)", y.next(0), NONE);
        goes(y, 1, 3, NONE);
    }

    @Holds(at = "Terms III", says = "it SPINS, when all is as it was ahead of an earlier one of these CYCLES")
    void itSpinsWhereTheWayBeginsAgain() {
        goes(behind(1, FOREVER), 2, 1, 1);
        goes(behind(1, "warps 1;set a 1;x:yield;go x;"), 2, 2, 2);
        goes(with("warps 1;set a 1;set a 2;x:yield;go x;"), 2, 4, 2);
        // a LANE that counts on is never as it was until it is at its bound
        LaneWarps x = with("warps 1;set b 999;mul b b 10;x:add b b 1;go x;");
        goes(x, 2, 21, 2);
    }

    @Holds(at = "Terms III", says = "(registers, memories, LINES, PARTS, TURNS, who LIVES, WAITS, went last, how much of READY is still to come)")
    void whatMustBeAsItWas() {
        goes(with("warps 1;set b 1;x:add a a 1;rem a a 5;go x;"), 2, 16, 15);
        goes(with("warps 1;set b 1;x:get a 0;add a a 1;rem a a 3;put 0 a;set a 0;go x;"), 2, 19, 18);
        goes(with("warps 1;set b 1;x:load a 0;add a a 1;rem a a 2;store 0 a;set a 0;go x;"), 2, 21, 20);
        goes(with("warps 1;set b 1;x:yield;yield;go x;"), 2, 4, 3);
        goes(with("warps 1;lane a;go y if a<4;x:yield;go x;y:yield;go y;"), 2, 7, 4);
        goes(with("warps 1;mode fair;set b 1;x:go x;"), 2, 9, 8);
        goes(with("warps 2;order turns;set b 1;x:go x;"), 2, 4, 2);
        goes(with("warps 1;set b 1;x:load a 0;go x;"), 2, 5, 4);
    }

    @Holds(at = "Terms III", says = "(registers, memories, LINES, PARTS, TURNS, who LIVES, WAITS, went last, how much of READY is still to come)")
    void partsWithTheSameLinesButOtherLanes() {
        // behind 6 LANES 4 .. 7 are on top at 3, LANES 0 .. 3 below at 4; behind 8 it is the other way round
        goes(with("warps 1;lane a;go x if a<4;yield;x:yield;go x;"), 2, 10, 4);
    }

    @Holds(at = "Terms III", says = "(registers, memories, LINES, PARTS, TURNS, who LIVES, WAITS, went last, how much of READY is still to come)")
    void oneStackAndTheSameWithAPartMore() {
        // each round of 3 is at 1, then at 3 under a PART that yields, then at 3 alone
        for (int ahead = 0; ahead < 3; ahead++) {
            goes(with("warps 1;" + "yield;".repeat(ahead) + "lane a;x:go y if a<4;yield;y:go x if b=0;end;"), 2, ahead + 4, 3);
        }
    }

    @Holds(at = "Terms III", says = "(registers, memories, LINES, PARTS, TURNS, who LIVES, WAITS, went last, how much of READY is still to come)")
    void barsWithoutEnd() {
        // LANE 0 has ENDED; the others go from bar to bar, by TURNS of 7 for 2 LINES
        goes(with("warps 1;mode fair;lane a;go x if a>0;end;x:bar;go x;"), 2, 19, 14);
        goes(with("warps 1;set a 1;x:bar;go x;"), 2, 3, 2);
        goes(with("warps 4;order turns;set a 1;x:bar;go x;"), 2, 12, 8);
        goes(with("warps 4;set a 1;x:go x;"), 2, 2, 1);
    }

    @Holds(at = "Terms III", says = "the first of these that comes.")
    void theFirstThatComes() {
        // what has ENDED or is STUCK is as it was ever after, but that comes later
        goes(behind(9, "warps 1;end;"), 0, 0, NONE);
        goes(behind(9, STUCK), 1, 0, NONE);
        // WARP 1 spins on though WARP 0 can't go any more
        goes(with("warps 2;warp b;lane a;go z if b=1;go x if a<4;bar;x:end;z:go z;"), 2, 9, 1);
    }

    @Holds(at = "Terms III", says = "ACTS: CYCLES; a word set; another MODE, ORDER, BANKS with BEGIN; BEGIN; by the seed.")
    void whatIsAnAct() {
        LaneWarps x = with(FOREVER);
        same("has(8)", x.has(8), 0);
        x.cycles(1);
        same("has(8) behind cycles()", x.has(8), 1);
        x.poke(false, 0, 0);
        same("has(8) behind poke()", x.has(8), 2);
        x.set(0, 0, 0);
        same("has(8) behind set()", x.has(8), 3);
        x.begin();
        same("has(8) behind begin()", x.has(8), 4);
        x.chance(20);
        same("has(8) behind chance()", x.has(8), 5);
        x.seed(3);
        x.goes(0);
        x.later(400, 0, 0, 0);
        x.next(0);
        x.agrees();
        same("has(8) behind no ACT", x.has(8), 5);
    }

    @Holds(at = "Terms III", says = "The last 20 can be undone.")
    void twentyCanBeUndone() {
        LaneWarps x = with(FOREVER);
        for (int k = 1; k <= 45; k++) {
            x.cycles(1);
            same("has(8)", x.has(8), Math.min(k, 20));
        }
        for (int k = 1; k <= 20; k++) {
            same("undo()", x.undo(), true);
            same("has(2)", x.has(2), 45 - k);
            same("has(8)", x.has(8), 20 - k);
        }
        same("undo()", x.undo(), false);
        same("has(2)", x.has(2), 25);
    }

    private static int[] draws(long seed, int count, int... of) {
        BigInteger x = BigInteger.valueOf(seed);
        int[] drawn = new int[count];
        for (int k = 0; k < count; k++) {
            x = x.multiply(BigInteger.valueOf(1103515245)).add(BigInteger.valueOf(12345)).mod(BigInteger.TWO.pow(31));
            drawn[k] = x.divide(BigInteger.valueOf(64)).mod(BigInteger.valueOf(of[k % of.length])).intValue();
        }
        return drawn;
    }

    @Holds(at = "Terms III", says = "A DRAW of m: x (the seed) becomes (1103515245 x + 12345) mod 2 to the 31; floor(x / 64) mod m.")
    void drawsFromTheLeastAndTheGreatestSeed() {
        for (int seed : new int[] {0, 1, 2, 63, 64, 1 << 30, GREATEST - 1, GREATEST}) {
            LaneWarps x = with(FOREVER);
            x.seed(seed);
            int[] due = draws(seed, 60, 64, 16, 8);
            int cycle = 0;
            for (int k = 0; k < 20; k++) {
                same("chance(1) of seed " + seed, x.chance(1), due[3 * k + 2] + 1);
                same("word(false, " + due[3 * k] + ")", x.word(false, due[3 * k]), due[3 * k + 1]);
                cycle += due[3 * k + 2] + 1;
            }
            same("has(2)", x.has(2), cycle);
        }
    }

    @Holds(at = "Terms III", says = "By the seed n times: a DRAW of 64, a DRAW of 16: that word of the far memory is that; a DRAW of 8 and 1:")
    void oneCallOfTwentyDrawsInTheSameOrder() {
        LaneWarps x = with(FOREVER);
        x.seed(11);
        int[] due = draws(11, 60, 64, 16, 8);
        int[] far = new int[64];
        int cycles = 0;
        for (int k = 0; k < 20; k++) {
            far[due[3 * k]] = due[3 * k + 1];
            cycles += due[3 * k + 2] + 1;
        }
        same("chance(20)", x.chance(20), cycles);
        for (int k = 0; k < 64; k++) {
            same("word(false, " + k + ")", x.word(false, k), far[k]);
        }
    }

    @Holds(at = "Terms III", says = "a DRAW of 8 and 1:")
    void aWordDrawnIsThereAheadOfItsCycles() {
        // the first DRAW is word 58, 3, then 3 CYCLES
        LaneWarps x = with("warps 1;load a 58;end;");
        same("chance(1)", x.chance(1), 1);
        same("lane(0, 0, 0)", x.lane(0, 0, 0), 3);
        same("has(2)", x.has(2), 3);
    }

    @Holds(at = "Terms III", says = "so many CYCLES (none beyond 9999).")
    void noCycleBeyond9999BySeed() {
        int[] due = draws(1, 3, 64, 16, 8);
        for (int left = 0; left <= 9; left++) {
            LaneWarps x = with(FOREVER);
            bringTo(x, 9999 - left);
            same("chance(1)", x.chance(1), Math.min(left, due[2] + 1));
            same("has(2)", x.has(2), 9999 - left + Math.min(left, due[2] + 1));
            same("word", x.word(false, due[0]), due[1]);
        }
    }

    @Holds(at = "Terms III", says = "BANKS are laid by a SKEW 0 .. 3 (0 at first): the BANK of an address is that and SKEW times floor(address / 4), together modulo 4.")
    void banksByEachSkew() {
        // of the addresses 0, 4 .. 28; of 0, 5 .. 30, 3; of 0, 3 .. 21
        int[][] due = {{8, 2, 2}, {2, 2, 4}, {4, 2, 2}, {2, 4, 3}};
        for (int skew = 0; skew < 4; skew++) {
            LaneWarps x = with("warps 1;lane a;mul b a 4;get c b;mul b a 5;rem b b 32;get c b;mul b a 3;put b c;end;");
            same("has(12)", x.has(12), 0);
            x.set(0, 0, skew);
            x.cycles(60);
            same("fours by SKEW " + skew, x.kept(2, 4), due[skew][0]);
            same("fives by SKEW " + skew, x.kept(5, 4), due[skew][1]);
            same("threes by SKEW " + skew, x.kept(7, 4), due[skew][2]);
        }
    }

    @Holds(at = "Terms III", says = "ALONE a LANE goes from BEGIN, none of the others ever being there.")
    void aloneAtABarAndInASwap() {
        LaneWarps bar = with("warps 4;lane a;go x if a<4;bar;x:swap a 0;bar;end;");
        // LANE 3: lane, go, swap, bar, end; LANE 4 has one bar more; alone nothing is in word 0
        same("alone(0, 3, 4)", bar.alone(0, 3, 4), 5);
        same("alone(3, 4, 4)", bar.alone(3, 4, 4), 6);
        same("alone(3, 4, 0)", bar.alone(3, 4, 0), 0);
        same("alone(3, 7, 0)", bar.alone(3, 7, 0), 0);
    }

    @Holds(at = "Terms III", says = "ALONE a LANE goes from BEGIN,")
    void aloneTakesNothingOfWhatHasBeenDone() {
        LaneWarps x = with("warps 1;word 5 3;load a 5;get b 5;end;");
        x.poke(false, 5, 9);
        x.poke(true, 5, 8);
        x.cycles(9);
        same("lane(0, 0, 0)", x.lane(0, 0, 0), 9);
        same("alone(0, 0, 0)", x.alone(0, 0, 0), 3);
        same("alone(0, 0, 1)", x.alone(0, 0, 1), 0);
        same("alone(0, 0, 4)", x.alone(0, 0, 4), 5);
    }

    @Holds(at = "Terms III", says = "LIKELY: a word of the far memory, CYCLES: values 0 .. 15, with which in that word at BEGIN it ENDS behind just so many CYCLES, by MODE, ORDER, SKEW as they are.")
    void likelyTriesTheValues0To15() {
        LaneWarps x = with(COUNT);
        same("likely(0, 5, NONE)", x.likely(0, 5, NONE), 2);
        for (int value = 2; value < 16; value++) {
            same("likely(0, " + (3 + 2 * value) + ", 0)", x.likely(0, 3 + 2 * value, 0), value);
            same("likely(0, " + (3 + 2 * value) + ", NONE)", x.likely(0, 3 + 2 * value, NONE), 1);
        }
        same("16", x.likely(0, 35, NONE), 0);
        same("just so many", x.likely(0, 32, NONE), 0);
    }

    @Holds(at = "Terms III", says = "LIKELY: a word of the far memory, CYCLES: values 0 .. 15, with which in that word at BEGIN")
    void likelyLooksAtBeginAlone() {
        LaneWarps x = with("warps 1;word 0 999;" + COUNT.substring(8));
        same("goes(1)", x.goes(1), NONE);
        same("likely(0, 9, 0)", x.likely(0, 9, 0), 3);
        x.poke(false, 0, 2);
        x.cycles(2);
        same("likely(0, 9, 0)", x.likely(0, 9, 0), 3);
        same("word(false, 0)", x.word(false, 0), 2);
    }

    @Holds(at = "Terms III", says = "TELLING: of the words 0 .. 7 that by whose values (0 .. 15, at BEGIN) the most unlike numbers of CYCLES come about till it ENDS")
    void tellingAmongTheWords0To7() {
        for (int word = 0; word < 8; word++) {
            LaneWarps x = with("warps 1;load a " + word + ";x:sub a a 1;go x if a>0;");
            same("tells(0)", x.tells(0), word);
            same("tells(1)", x.tells(1), 15);
        }
        LaneWarps eight = with("warps 1;load a 8;x:sub a a 1;go x if a>0;");
        same("tells(0)", eight.tells(0), 0);
        same("tells(1)", eight.tells(1), 1);
    }

    @Holds(at = "Terms III", says = "(not within 400 is one, too);")
    void tellingWhereSomeDontEnd() {
        // with 3 it goes on for ever; 0 .. 2 and 4 .. 15 END alike
        LaneWarps one = with("warps 1;load a 2;x:go x if a=3;end;");
        same("tells(0)", one.tells(0), 2);
        same("tells(1)", one.tells(1), 2);
        LaneWarps none = with(FOREVER);
        same("tells(0)", none.tells(0), 0);
        same("tells(1)", none.tells(1), 1);
        // v in word 1: 3 + 2 + 2 * (21 v + 7) + 2 CYCLES, so 9 ENDS behind 399, 10 and more not within 400
        LaneWarps edge = with("warps 1;load a 1;mul a a 21;add a a 7;x:sub a a 1;go x if a>0;set c 1;end;");
        same("likely(1, 399, 0)", edge.likely(1, 399, 0), 9);
        same("tells(0)", edge.tells(0), 1);
        same("tells(1)", edge.tells(1), 11);
    }

    @Holds(at = "Terms III", says = "of like ones the first.")
    void tellingOfLikeOnesTheFirst() {
        LaneWarps x = with("warps 1;load a 6;go x if a=0;yield;x:load a 4;go y if a=0;yield;y:end;");
        same("tells(0)", x.tells(0), 4);
        same("tells(1)", x.tells(1), 2);
        LaneWarps none = with("warps 1;end;");
        same("tells(0)", none.tells(0), 0);
        same("tells(1)", none.tells(1), 1);
    }

    // Promise 14

    @Holds(at = "Promise 14", says = "What goes in this CYCLE, if it comes: 0 the WARP, 1 the LINE, 2 LANES, as bits, 3 what it TAKES.")
    void nextDoesNothing() {
        LaneWarps x = behind(3, "warps 2;lane a;mul b a 8;go x if a<7;load c b;x:end;");
        String before = look(x);
        int[] due = {0, 3, 128, 3};
        for (int what = 0; what < 4; what++) {
            same("next(" + what + ")", x.next(what), due[what]);
        }
        same("all stays", look(x).equals(before), true);
    }

    @Holds(at = "Promise 14", says = "NONE when none goes,")
    void nextWhenNoneGoes() {
        for (int what = 0; what < 4; what++) {
            same("has ENDED", behind(1, "warps 1;end;").next(what), NONE);
            same("is STUCK", behind(3, STUCK).next(what), NONE);
            same("is not READY", behind(1, "warps 1;load a 0;end;").next(what), NONE);
        }
    }

    @Holds(at = "Promise 14", says = "at CYCLE 9999,")
    void nextAtCycle9999() {
        LaneWarps x = with(FOREVER);
        bringTo(x, 9998);
        same("next(0)", x.next(0), 0);
        x.cycles(1);
        for (int what = 0; what < 4; what++) {
            same("next(" + what + ")", x.next(what), NONE);
        }
        x.undo();
        same("next(0)", x.next(0), 0);
    }

    @Holds(at = "Promise 14", says = "without a program, or for others.")
    void nextWithoutAProgramOrForOthers() {
        for (int what : new int[] {LEAST, -1, 0, 3, 4, GREATEST}) {
            same("next(" + what + ")", new LaneWarps().next(what), NONE);
        }
        for (int what : new int[] {LEAST, -1, 4, GREATEST}) {
            same("next(" + what + ")", with(FOREVER).next(what), NONE);
        }
    }

    // Promise 15

    @Holds(at = "Promise 15", says = "AHEAD, within 400 CYCLES")
    void goesWithin400() {
        goes(endsBehind400(), 0, 400, NONE);
        goes(endsBehind401(), 3, NONE, NONE);
        goes(stuckBehind(399), 1, 399, NONE);
        goes(stuckBehind(400), 1, 400, NONE);
        goes(stuckBehind(401), 3, NONE, NONE);
        goes(spinsBehind(400), 2, 400, 399);
        goes(spinsBehind(401), 3, NONE, NONE);
    }

    @Holds(at = "Promise 15", says = "AHEAD, within 400 CYCLES")
    void goesFromWhereItIs() {
        LaneWarps x = endsBehind401();
        x.cycles(1);
        goes(x, 0, 400, NONE);
        x.undo();
        goes(x, 3, NONE, NONE);
        LaneWarps y = spinsBehind(401);
        y.cycles(1);
        goes(y, 2, 400, 399);
    }

    @Holds(at = "Promise 15", says = "what 0: 0 it ENDS, 1 is STUCK, 2 SPINS, 3 none by then;")
    void goesEachWay() {
        goes(with("warps 1;end;"), 0, 1, NONE);
        goes(with(STUCK), 1, 3, NONE);
        goes(behind(1, FOREVER), 2, 1, 1);
        goes(with("warps 1;x:add a a 1;go x;"), 3, NONE, NONE);
    }

    @Holds(at = "Promise 15", says = "(beyond CYCLE 9999, too)")
    void goesBeyondCycle9999() {
        LaneWarps y = with("warps 1;word 1 9;x:load a 1;store 0 0;go x if a=9;load b 3;end;");
        bringTo(y, 9999);
        y.poke(false, 1, 0);
        same("next(0)", y.next(0), NONE);
        // a round takes 7: load 3, store 3, go 1; 9999 = 1428 * 7 + 3, so store is next; then go, load, store, go, load, end
        goes(y, 0, 3 + 1 + 3 + 3 + 1 + 3 + 1, NONE);
        LaneWarps z = with(FOREVER);
        bringTo(z, 9999);
        goes(z, 2, 1, 1);
    }

    @Holds(at = "Promise 15", says = "1: behind how many CYCLES (0: it has, is);")
    void goesBehind0() {
        LaneWarps ended = behind(1, "warps 1;end;");
        goes(ended, 0, 0, NONE);
        LaneWarps stuck = behind(3, STUCK);
        goes(stuck, 1, 0, NONE);
        LaneWarps far = with("warps 1;end;");
        bringTo(far, 9999);
        goes(far, 0, 0, NONE);
    }

    @Holds(at = "Promise 15", says = "2: of SPINS how many CYCLES a round takes.")
    void goesRounds() {
        goes(behind(1, FOREVER), 2, 1, 1);
        LaneWarps longest = behind(4, "warps 1;x:add a a 1;rem a a 100;yield;go x;");
        goes(longest, 2, 400, 400);
    }

    @Holds(at = "Promise 15", says = "NONE (1, 2) when not, without a program, or for others.")
    void goesNone() {
        goes(endsBehind401(), 3, NONE, NONE);
        for (int what : new int[] {LEAST, -1, 0, 1, 2, 3, GREATEST}) {
            same("goes(" + what + ")", new LaneWarps().goes(what), NONE);
        }
        for (int what : new int[] {LEAST, -1, 3, GREATEST}) {
            same("goes(" + what + ")", with(FOREVER).goes(what), NONE);
        }
    }

    // Promise 16

    @Holds(at = "Promise 16", says = "Behind n CYCLES AHEAD (0 .. 400;")
    void laterFrom0To400() {
        LaneWarps x = with("warps 1;x:add a a 1;add b a 0;go x;");
        int[] n = {0, 1, 2, 3, 4, 399, 400};
        int[] dueA = {0, 1, 1, 1, 2, 133, 134};
        int[] dueB = {0, 0, 1, 1, 1, 133, 133};
        for (int k = 0; k < n.length; k++) {
            same("later(" + n[k] + ", 0, 0, 0)", x.later(n[k], 0, 0, 0), dueA[k]);
            same("later(" + n[k] + ", 0, 7, 1)", x.later(n[k], 0, 7, 1), dueB[k]);
        }
        same("has(2)", x.has(2), 0);
    }

    @Holds(at = "Promise 16", says = "beyond CYCLE 9999, too)")
    void laterBeyondCycle9999() {
        LaneWarps x = with("warps 1;x:add a a 1;rem a a 7;go x;");
        bringTo(x, 9999);
        // a round takes 3, so 9999 is the end of one
        int now = x.lane(0, 0, 0);
        same("lane(0, 0, 0)", now, 3333 % 7);
        same("later(1, 0, 0, 0)", x.later(1, 0, 0, 0), now + 1);
        same("later(400, 0, 0, 0)", x.later(400, 0, 0, 0), (now + 133) % 7 + 1);
        same("has(2)", x.has(2), 9999);
    }

    @Holds(at = "Promise 16", says = "Behind n CYCLES AHEAD")
    void laterOfOneThatHasEndedOrIsStuck() {
        LaneWarps ended = behind(2, "warps 1;lane a;end;");
        same("later(400, 0, 7, 0)", ended.later(400, 0, 7, 0), 7);
        LaneWarps stuck = behind(3, STUCK);
        same("later(400, 0, 7, 0)", stuck.later(400, 0, 7, 0), 7);
    }

    @Holds(at = "Promise 16", says = "a register (0 .. 3) of a LANE;")
    void laterOfEachRegister() {
        LaneWarps x = with("warps 4;order turns;lane a;warp b;set c 7;sub d 0 a;end;");
        int[] due = {7, 3, 7, -7};
        for (int register = 0; register < 4; register++) {
            same("later(15, 3, 7, " + register + ")", x.later(15, 3, 7, register), register == 3 ? 0 : due[register]);
            same("later(16, 3, 7, " + register + ")", x.later(16, 3, 7, register), due[register]);
        }
    }

    @Holds(at = "Promise 16", says = "NOTHING when there is none such, n can't be,")
    void laterNothing() {
        LaneWarps x = with("warps 2;x:add a a 1;go x;");
        for (int n : new int[] {LEAST, -1, 401, GREATEST}) {
            same("later(" + n + ", 0, 0, 0)", x.later(n, 0, 0, 0), NOTHING);
        }
        for (int warp : new int[] {LEAST, -1, 2, GREATEST}) {
            same("later(0, " + warp + ", 0, 0)", x.later(0, warp, 0, 0), NOTHING);
        }
        for (int lane : new int[] {LEAST, -1, 8, GREATEST}) {
            same("later(0, 0, " + lane + ", 0)", x.later(0, 0, lane, 0), NOTHING);
        }
        for (int register : new int[] {LEAST, -1, 4, GREATEST}) {
            same("later(0, 0, 0, " + register + ")", x.later(0, 0, 0, register), NOTHING);
        }
        same("later(0, 1, 7, 3)", x.later(0, 1, 7, 3), 0);
    }

    @Holds(at = "Promise 16", says = "or without a program.")
    void laterWithoutAProgram() {
        same("later(0, 0, 0, 0)", new LaneWarps().later(0, 0, 0, 0), NOTHING);
        same("later(400, 0, 0, 0)", new LaneWarps().later(400, 0, 0, 0), NOTHING);
    }

    // Promise 17

    @Holds(at = "Promise 17", says = "From BEGIN by a MODE, an ORDER, SKEW as it is, within 400 CYCLES: what as in goes().")
    void byWithin400() {
        for (int mode = 0; mode < 2; mode++) {
            for (int order = 0; order < 2; order++) {
                by(endsBehind400(), mode, order, 0, 400, NONE);
                by(endsBehind401(), mode, order, 3, NONE, NONE);
            }
        }
        by(stuckBehind(400), 0, 0, 1, 400, NONE);
        by(stuckBehind(401), 0, 0, 3, NONE, NONE);
        by(spinsBehind(400), 0, 1, 2, 400, 399);
        by(spinsBehind(401), 0, 1, 3, NONE, NONE);
    }

    @Holds(at = "Promise 17", says = "From BEGIN by a MODE, an ORDER,")
    void byFromBeginWhereverItIs() {
        LaneWarps x = with("warps 2;word 0 2;load a 0;x:sub a a 1;go x if a>0;end;");
        int due = x.by(0, 0, 1);
        x.poke(false, 0, 9);
        x.cycles(30);
        same("has(4)", x.has(4), 8);
        by(x, 0, 0, 0, due, NONE);
        bringTo(x, 9900);
        by(x, 0, 0, 0, due, NONE);
        x.begin();
        same("goes(1)", x.goes(1), due);
    }

    @Holds(at = "Promise 17", says = "SKEW as it is,")
    void byTheSkewAsItIs() {
        int[] due = {11, 5, 7, 5};
        for (int skew = 0; skew < 4; skew++) {
            LaneWarps x = with("warps 1;lane a;mul a a 4;get b a;end;");
            x.set(1, 1, skew);
            by(x, 0, 0, 0, due[skew], NONE);
            by(x, 1, 1, 0, due[skew], NONE);
        }
    }

    @Holds(at = "Promise 17", says = "From BEGIN by a MODE, an ORDER, SKEW as it is,")
    void byEachOfAllOnOneObject() {
        // each MODE, ORDER, SKEW is asked beside all the others, and the way from now on beside them
        String text = "warps 2;lane a;warp b;go y if b=1;go x if a<4;mul c a 4;get d c;yield;x:load d a;y:mul c a 4;get d c;set c 1;end;";
        LaneWarps x = with(text);
        for (int round = 0; round < 2; round++) {
            for (int skew = 0; skew < 4; skew++) {
                x.set(0, 0, skew);
                x.cycles(1);
                for (int k = 0; k < 4; k++) {
                    LaneWarps fresh = with(text);
                    fresh.set(k / 2, k % 2, skew);
                    same("by(" + k / 2 + ", " + k % 2 + ", 1) at SKEW " + skew, x.by(k / 2, k % 2, 1), fresh.goes(1));
                    same("goes(1)", x.goes(1), x.by(0, 0, 1) - 1);
                }
            }
        }
    }

    @Holds(at = "Promise 17", says = "NONE likewise, or when these can't be.")
    void byNone() {
        LaneWarps x = with(FOREVER);
        for (int other : new int[] {LEAST, -1, 2, GREATEST}) {
            same("by(" + other + ", 0, 0)", x.by(other, 0, 0), NONE);
            same("by(0, " + other + ", 0)", x.by(0, other, 0), NONE);
        }
        for (int what : new int[] {LEAST, -1, 3, GREATEST}) {
            same("by(0, 0, " + what + ")", x.by(0, 0, what), NONE);
        }
        for (int what = 0; what < 3; what++) {
            same("by(0, 0, " + what + ") without a program", new LaneWarps().by(0, 0, what), NONE);
        }
    }

    // Promise 18

    @Holds(at = "Promise 18", says = "it ENDS behind the fewest CYCLES, within 400 (what 0; the first), these (1).")
    void skewTheFirstOfLikeOnes() {
        LaneWarps x = with("warps 1;lane a;mul a a 4;get b a;end;");
        same("skew(0)", x.skew(0), 1);
        same("skew(1)", x.skew(1), 5);
        LaneWarps all = with("warps 1;end;");
        same("skew(0)", all.skew(0), 0);
        same("skew(1)", all.skew(1), 1);
        // the BANKS of 0, 4, 7, 6 are 0, 0, 3, 2 by SKEW 0; 0, 1, 0, 3 by 1; 0, 2, 1, 0 by 2; 0, 3, 2, 1 by 3
        LaneWarps last = with("warps 1;word 1 4;word 2 7;word 3 6;lane a;rem a a 4;load b a;get c b;end;");
        same("skew(0)", last.skew(0), 3);
        same("skew(1)", last.skew(1), 7);
    }

    @Holds(at = "Promise 18", says = "The SKEW by which from BEGIN, by MODE and ORDER as they are,")
    void skewByModeAndOrderAsTheyAre() {
        LaneWarps x = with("warps 1;lane a;go x if a<4;bar;x:mul a a 4;get b a;end;");
        same("skew(0) by stack", x.skew(0), NONE);
        same("skew(1) by stack", x.skew(1), NONE);
        x.set(1, 0, 2);
        same("skew(0) by fair", x.skew(0), 1);
        same("skew(1) by fair", x.skew(1), 9);
        same("has(12)", x.has(12), 2);
    }

    @Holds(at = "Promise 18", says = "within 400 (what 0; the first), these (1).")
    void skewWithin400() {
        same("skew(0)", endsBehind400().skew(0), 0);
        same("skew(1)", endsBehind400().skew(1), 400);
        same("skew(0)", endsBehind401().skew(0), NONE);
        same("skew(1)", endsBehind401().skew(1), NONE);
    }

    @Holds(at = "Promise 18", says = "NONE when by none, without a program, or for others.")
    void skewNone() {
        for (int what : new int[] {LEAST, -1, 2, GREATEST}) {
            same("skew(" + what + ")", with("warps 1;end;").skew(what), NONE);
        }
        for (int what = 0; what < 2; what++) {
            same("skew(" + what + ") by none", with(FOREVER).skew(what), NONE);
            same("skew(" + what + ") by none", with(STUCK).skew(what), NONE);
            same("skew(" + what + ") without a program", new LaneWarps().skew(what), NONE);
        }
    }

    // Promise 19

    @Holds(at = "Promise 19", says = "ALONE, by MODE, ORDER, SKEW as they are, within 400 CYCLES:")
    void aloneWithin400() {
        same("alone(0, 0, 4)", endsBehind400().alone(0, 0, 4), 400);
        same("alone(0, 0, 0)", endsBehind400().alone(0, 0, 0), 199);
        for (int what = 0; what < 5; what++) {
            same("alone(0, 0, " + what + ")", endsBehind401().alone(0, 0, what), NOTHING);
        }
    }

    @Holds(at = "Promise 19", says = "a register (what 0 .. 3) of a LANE behind its last LINE, 4 behind how many CYCLES none LIVES.")
    void aloneOfEachLane() {
        LaneWarps x = with("warps 4;lane a;warp b;set c 5;sub d 0 a;");
        for (int lane = 0; lane < 8; lane++) {
            int[] due = {lane, lane / 2, 5, -lane, 4};
            for (int what = 0; what < 5; what++) {
                same("alone(" + lane / 2 + ", " + lane + ", " + what + ")", x.alone(lane / 2, lane, what), due[what]);
            }
        }
    }

    @Holds(at = "Promise 19", says = "ALONE, by MODE, ORDER, SKEW as they are,")
    void aloneBehindEachSet() {
        // ALONE a LANE has all BANKS for itself
        LaneWarps x = with("warps 1;lane a;mul b a 4;get c b;end;");
        for (int k = 0; k < 16; k++) {
            same("alone(0, 7, 4)", x.alone(0, 7, 4), 4);
            same("alone(0, 7, 1)", x.alone(0, 7, 1), 28);
            x.set(k / 8, k / 4 % 2, k % 4);
        }
    }

    @Holds(at = "Promise 19", says = "NOTHING when it does not END by then,")
    void aloneOneThatDoesNotEnd() {
        LaneWarps x = with("warps 1;lane a;x:go x if a=5;end;");
        for (int what = 0; what < 5; what++) {
            same("alone(0, 5, " + what + ")", x.alone(0, 5, what), NOTHING);
        }
        same("alone(0, 4, 4)", x.alone(0, 4, 4), 3);
        same("alone(0, 6, 4)", x.alone(0, 6, 4), 3);
    }

    @Holds(at = "Promise 19", says = "there is none such, or for others.")
    void aloneNothing() {
        LaneWarps x = with("warps 2;end;");
        for (int warp : new int[] {LEAST, -1, 2, GREATEST}) {
            same("alone(" + warp + ", 0, 0)", x.alone(warp, 0, 0), NOTHING);
        }
        for (int lane : new int[] {LEAST, -1, 8, GREATEST}) {
            same("alone(0, " + lane + ", 0)", x.alone(0, lane, 0), NOTHING);
        }
        for (int what : new int[] {LEAST, -1, 5, GREATEST}) {
            same("alone(0, 0, " + what + ")", x.alone(0, 0, what), NOTHING);
        }
        same("alone(1, 7, 4)", x.alone(1, 7, 4), 1);
        same("alone(0, 0, 0) without a program", new LaneWarps().alone(0, 0, 0), NOTHING);
    }

    // Promise 20

    @Holds(at = "Promise 20", says = "How many LANES have ENDED with all registers as they are ALONE;")
    void agreesOnlyWithThoseThatHaveEnded() {
        // as ALONE from the first CYCLE on, but ENDED are none, then 8 by 8
        LaneWarps x = with("warps 4;set a 1;end;");
        int[] due = {0, 0, 8, 8, 16, 16, 24, 24, 32};
        for (int k = 0; k < due.length; k++) {
            same("agrees()", x.agrees(), due[k]);
            x.cycles(1);
        }
    }

    @Holds(at = "Promise 20", says = "with all registers as they are ALONE;")
    void agreesWithAllRegisters() {
        for (String register : new String[] {"a", "b", "c", "d"}) {
            LaneWarps x = with("warps 1;load " + register + " 0;end;");
            x.cycles(9);
            same("agrees()", x.agrees(), 8);
            x.begin();
            x.poke(false, 0, 1);
            x.cycles(9);
            same("agrees() with another " + register, x.agrees(), 0);
        }
    }

    @Holds(at = "Promise 20", says = "as they are ALONE;")
    void agreesNotWithOneThatDoesNotEndAlone() {
        LaneWarps x = with("warps 1;x:get a 0;go x if a=0;set a 0;end;");
        x.poke(true, 0, 1);
        x.cycles(9);
        same("has(4)", x.has(4), 0);
        same("agrees()", x.agrees(), 0);
    }

    @Holds(at = "Promise 20", says = "NONE without a program.")
    void agreesWithoutAProgram() {
        same("agrees()", new LaneWarps().agrees(), NONE);
    }

    // Promise 21

    @Holds(at = "Promise 21", says = "LIKELY of a word (0 .. 63), CYCLES (0 .. 400):")
    void likelyWordsAndCycles() {
        LaneWarps x = with("warps 1;load a 63;x:sub a a 1;go x if a>0;");
        same("likely(63, 33, 0)", x.likely(63, 33, 0), 15);
        same("likely(0, 5, NONE)", x.likely(0, 5, NONE), 16);
        same("likely(0, 0, NONE)", x.likely(0, 0, NONE), 0);
        same("likely(0, 400, NONE)", endsBehind400().likely(0, 400, NONE), 16);
        same("likely(0, 400, NONE)", endsBehind401().likely(0, 400, NONE), 0);
        for (int word : new int[] {LEAST, -1, 64, GREATEST}) {
            same("likely(" + word + ", 5, NONE)", x.likely(word, 5, NONE), NONE);
            same("likely(" + word + ", 5, 0)", x.likely(word, 5, 0), NONE);
        }
        for (int cycles : new int[] {LEAST, -1, 401, GREATEST}) {
            same("likely(0, " + cycles + ", NONE)", x.likely(0, cycles, NONE), NONE);
            same("likely(0, " + cycles + ", 0)", endsBehind401().likely(0, cycles, 0), NONE);
        }
    }

    @Holds(at = "Terms III", says = "it ENDS behind just so many CYCLES, by MODE, ORDER, SKEW as they are.")
    void likelyBehindEachSet() {
        int[] due = {14, 8, 10, 8};
        LaneWarps x = with("warps 1;lane a;mul a a 4;get b a;load c 0;end;");
        for (int k = 0; k < 16; k++) {
            x.set(k / 8, k / 4 % 2, k % 4);
            for (int word = 0; word < 64; word += 9) {
                same("likely(" + word + ", " + due[k % 4] + ", NONE)", x.likely(word, due[k % 4], NONE), 16);
            }
        }
        // WARP 0 has more LINES, WARP 1 waits longer: by age it begins late
        LaneWarps turns = with("warps 2;warp a;go x if a=1;set b 1;set b 1;set b 1;set b 1;end;x:load b 0;end;");
        for (int k = 0; k < 4; k++) {
            turns.set(0, k % 2, 0);
            same("likely(0, 13, NONE)", turns.likely(0, 13, NONE), k % 2 == 0 ? 16 : 0);
            same("likely(0, 11, NONE)", turns.likely(0, 11, NONE), k % 2 == 0 ? 0 : 16);
        }
        LaneWarps modes = with("warps 1;lane a;load b 0;go x if a<b;go x if a<8;x:end;");
        for (int k = 0; k < 4; k++) {
            modes.set(k % 2, 0, 0);
            same("likely(0, 7, NONE)", modes.likely(0, 7, NONE), k % 2 == 0 ? 8 : 4);
            same("tells(1)", modes.tells(1), k % 2 == 0 ? 2 : 3);
        }
    }

    @Holds(at = "Terms III", says = "LIKELY: a word of the far memory,")
    void likelyOfEachWordThatIsLoaded() {
        LaneWarps x = with("warps 1;word 0 4;word 1 6;word 40 2;load a 0;load b 1;load c 40;add a a b;add a a c;x:sub a a 1;go x if a>0;");
        // 9 + 2 + 2 (v + w + u) CYCLES
        for (int value = 0; value < 16; value++) {
            same("likely(0)", x.likely(0, 11 + 2 * (value + 8), 0), value);
            same("likely(1)", x.likely(1, 11 + 2 * (value + 6), 0), value);
            same("likely(40)", x.likely(40, 11 + 2 * (value + 10), 0), value);
        }
        same("likely(2)", x.likely(2, 35, NONE), 16);
        // stored ahead of being loaded, no value of it matters
        LaneWarps y = with("warps 1;store 2 3;load a 2;x:sub a a 1;go x if a>0;");
        same("likely(2)", y.likely(2, 12, NONE), 16);
    }

    @Holds(at = "Promise 21", says = "how many values (k NONE), the k-th, rising.")
    void likelyRising() {
        // with 3, 7, 11, 15 one LINE more is done
        LaneWarps x = with("warps 1;load a 9;rem b a 4;go x if b<3;yield;x:end;");
        same("likely(9, 7, NONE)", x.likely(9, 7, NONE), 4);
        for (int k = 0; k < 4; k++) {
            same("likely(9, 7, " + k + ")", x.likely(9, 7, k), 3 + 4 * k);
        }
        same("likely(9, 6, NONE)", x.likely(9, 6, NONE), 12);
        same("likely(9, 6, 0)", x.likely(9, 6, 0), 0);
        same("likely(9, 6, 11)", x.likely(9, 6, 11), 14);
    }

    @Holds(at = "Promise 21", says = "NONE when there is none such, or without a program.")
    void likelyNone() {
        LaneWarps x = with("warps 1;end;");
        same("likely(0, 1, 15)", x.likely(0, 1, 15), 15);
        for (int k : new int[] {LEAST, -2, 16, GREATEST}) {
            same("likely(0, 1, " + k + ")", x.likely(0, 1, k), NONE);
        }
        same("likely(0, 2, 0)", x.likely(0, 2, 0), NONE);
        same("likely(0, 1, NONE) without a program", new LaneWarps().likely(0, 1, NONE), NONE);
        same("likely(0, 1, 0) without a program", new LaneWarps().likely(0, 1, 0), NONE);
    }

    // Promise 22

    @Holds(at = "Promise 22", says = "NONE for others, or without a program.")
    void tellsNone() {
        for (int what : new int[] {LEAST, -1, 2, GREATEST}) {
            same("tells(" + what + ")", with(COUNT).tells(what), NONE);
        }
        for (int what = 0; what < 2; what++) {
            same("tells(" + what + ") without a program", new LaneWarps().tells(what), NONE);
        }
    }

    @Holds(at = "Promise 22", says = "TELLING: the word (what 0), how many unlike numbers (1).")
    void tellsFrom1To16Numbers() {
        same("tells(1)", with("warps 1;end;").tells(1), 1);
        // with v it goes 2 v + 1 times round: all 16 are unlike
        LaneWarps x = with("warps 1;load a 3;add a a 1;x:sub a a 1;go x if a>0;");
        same("tells(0)", x.tells(0), 3);
        same("tells(1)", x.tells(1), 16);
    }
}
