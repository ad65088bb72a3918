/** How lines, STACKS, TURNS, bars, yields, races, segments and banks go: what the terms say beyond the single calls. */
public final class GoingTest {
    private static final int NONE = LaneWarps.NONE;

    private final Check check = new Check();

    public static void main(String[] args) {
        GoingTest test = new GoingTest();
        test.numbers();
        test.addresses();
        test.writesTogether();
        test.swaps();
        test.takes();
        test.meets();
        test.splits();
        test.deepStack();
        test.endsAtTheLastLine();
        test.yields();
        test.yieldsAtTheEnd();
        test.stackBars();
        test.fairBars();
        test.unlikeBars();
        test.fairTurns();
        test.orders();
        test.epochs();
        test.stuckAmongOthers();
        test.spins();
        test.check.close("GoingTest");
    }

    private static LaneWarps done(String text) {
        LaneWarps x = Check.with(text);
        x.cycles(400);
        return x;
    }

    private void registers(LaneWarps x, int warp, int lane, int... due) {
        for (int r = 0; r < due.length; r++) {
            check.same("register " + r + " of " + lane, x.lane(warp, lane, r), due[r]);
        }
    }

    private void eachLane(LaneWarps x, int register, int... due) {
        for (int lane = 0; lane < 8; lane++) {
            check.same("register " + register + " of " + lane, x.lane(0, lane, register), due[lane]);
        }
    }

    /** Line, meets, lanes of each PART, the lowest first. */
    private void stack(LaneWarps x, int... due) {
        check.same("PARTS", x.warp(0, 2), due.length / 3);
        for (int k = 0; k < due.length; k++) {
            check.same("part(0, " + k / 3 + ", " + k % 3 + ")", x.part(0, k / 3, k % 3), due[k]);
        }
    }

    private void numbers() {
        check.about("numbers");
        registers(done("warps 1;set a 999;mul a a a;sub b 0 a;sub c b a;add d a 1;"), 0, 3, 9999, -9999, -9999, 9999);
        registers(done("warps 1;set a 99;mul a a 101;add a a 1;sub b a 1;mul c b b;sub d 0 998;"), 0, 0, 9999, 9998, 9999, -998);
        registers(done("warps 1;sub a 0 7;rem b a 5;rem c 7 5;rem d 7 a;"), 0, 0, -7, 3, 2, 0);
        registers(done("warps 1;rem a 7 0;sub b 0 10;rem b b 5;rem c 9 1;rem d 4 5;"), 0, 0, 0, 0, 0, 4);
        registers(done("warps 1;set a 3;add a a a;mul b a a;sub c b a;set d c;"), 0, 0, 6, 36, 30, 30);
        registers(done("warps 3;warp a;lane b;"), 2, 5, 2, 5);
        registers(done("warps 1;set d 5;set a 0;add b 0 0;go x if 0=0;set c 1;x:end;"), 0, 1, 0, 0, 0, 5);
    }

    private void addresses() {
        check.about("addresses");
        LaneWarps x = done("warps 1;word 63 5;word 1 6;sub a 0 1;load b a;load c 65;put a 9;get d 31;store 128 a;");
        registers(x, 0, 2, -1, 5, 6, 9);
        check.same("near 31", x.word(true, 31), 9);
        check.same("far 0", x.word(false, 0), -1);
        LaneWarps y = done("warps 1;put 33 4;get a 1;set b 7;swap b 65;get c 1;");
        registers(y, 0, 0, 4, 4, 7);
    }

    private void writesTogether() {
        check.about("writes together");
        LaneWarps x = done("warps 1;lane a;sub b 10 a;store 5 b;put 6 b;go x if a>5;store 7 a;x:end;");
        check.same("that of the greatest LANE", x.word(false, 5), 3);
        check.same("that of the greatest LANE", x.word(true, 6), 3);
        check.same("that of the greatest LANE", x.word(false, 7), 5);
        LaneWarps y = done("warps 1;lane a;put a a;add b a 1;get c b;rem b b 8;get d b;");
        eachLane(y, 2, 1, 2, 3, 4, 5, 6, 7, 0);
        eachLane(y, 3, 1, 2, 3, 4, 5, 6, 7, 0);
    }

    private void swaps() {
        check.about("swaps");
        LaneWarps x = done("warps 1;lane a;add a a 1;swap a 3;");
        eachLane(x, 0, 0, 1, 2, 3, 4, 5, 6, 7);
        check.same("near 3", x.word(true, 3), 8);
        check.same("no RACE", x.has(6), 0);
        LaneWarps y = done("warps 1;lane a;swap a a;");
        eachLane(y, 0, 0, 0, 0, 0, 0, 0, 0, 0);
        for (int k = 0; k < 8; k++) {
            check.same("near " + k, y.word(true, k), k);
        }
    }

    private void takes(String lines, int due) {
        LaneWarps x = done("warps 1;lane a;" + lines + "x:end;");
        check.same(lines, x.kept(x.has(7) - 2, 4), due);
    }

    private void takes() {
        check.about("takes");
        takes("load b 5;", 3);
        takes("load b a;", 3);
        takes("add b a 1;load c b;", 4);
        takes("mul b a 8;load c b;", 10);
        takes("mul b a 16;load c b;", 6);
        takes("mul b a 8;store b a;", 10);
        takes("sub b a 4;store b a;", 4);
        takes("get b 5;", 1);
        takes("get b a;", 2);
        takes("mul b a 4;get c b;", 8);
        takes("mul b a 8;put b a;", 4);
        takes("mul b a 4;rem b b 12;get c b;", 3);
        takes("rem b a 4;put b a;", 1);
        takes("swap b a;", 8);
        takes("go x if a>4;swap b a;", 5);
        takes("go x if a>1;mul b a 8;load b b;", 4);
        takes("mul b a a;", 1);
        takes("yield;", 1);
        check.same("bar", done("warps 1;bar;").kept(0, 4), 1);
        check.same("end", done("warps 1;end;").kept(0, 4), 1);
        skewed(0, 8, 4);
        skewed(1, 2, 2);
        skewed(2, 4, 4);
        skewed(3, 2, 2);
    }

    /** 0, 4 .. 28 have the BANKS SKEW times 0 .. 7; 0, 8, 16, 24, asked twice each, SKEW times 0, 2, 4, 6. */
    private void skewed(int skew, int dueOfFours, int dueOfEights) {
        LaneWarps x = Check.with("warps 1;lane a;mul b a 4;get c b;mul b a 8;get c b;end;");
        x.set(0, 0, skew);
        x.cycles(30);
        check.same("fours by SKEW " + skew, x.kept(2, 4), dueOfFours);
        check.same("eights by SKEW " + skew, x.kept(4, 4), dueOfEights);
    }

    private void meet(String text, int line, int due) {
        check.about(text);
        check.same("line(" + line + ", 6)", Check.with(text).line(line, 6), due);
    }

    private void meets() {
        meet("warps 1;x:go x if a<1;", 0, 1);
        meet("warps 1;go x if a<1;x:end;", 0, 1);
        meet("warps 1;go x if a<1;end;x:end;", 0, 3);
        meet("warps 1;go x if a<1;set a 1;x:end;", 0, 2);
        meet("warps 1;go x if a<1;set a 1;go y;x:set a 2;y:bar;end;", 0, 4);
        meet("warps 1;go x if a<1;set a 1;go y;x:set a 2;y:go y if a=2;end;", 0, 4);
        meet("warps 1;go x if a<1;set a 1;go y;x:set a 2;y:go y if a=2;end;", 4, 5);
        // no way leads to the END
        meet("warps 1;x:go x if a<1;go x;", 0, 2);
        meet("warps 1;x:yield;go y if a<1;go x;y:go x;end;", 1, 5);
        // one of the two ways does not lead there: only the other one counts
        meet("warps 1;go x if a<1;set b 1;end;x:go x;", 0, 1);
        meet("warps 1;go x if a<1;y:go y;x:set b 1;end;", 0, 2);
        // a way back past the go itself
        meet("warps 1;x:set a 1;go y if a<1;go x if a>1;set b 1;y:set c 1;end;", 1, 4);
        meet("warps 1;x:set a 1;go y if a<1;go x if a>1;set b 1;y:set c 1;end;", 2, 4);
        meet("warps 1;x:go y if a<1;go x;y:go x if b<1;end;", 0, 2);
        meet("warps 1;x:go y if a<1;go x;y:go x if b<1;end;", 2, 3);
        // two loops into one another
        meet("warps 1;go y if a<1;x:go z if b<1;y:go x if c<1;z:end;", 0, 3);
        meet("warps 1;go y if a<1;x:go z if b<1;y:go x if c<1;z:end;", 1, 3);
        meet("warps 1;go y if a<1;x:go z if b<1;y:go x if c<1;z:end;", 2, 3);
        // the nearest point lies behind others in the text
        meet("warps 1;go s;m:end;s:go t if a<1;set b 1;t:go m;", 2, 4);
        // the point lies ahead in the text
        meet("warps 1;go s;m:set a 1;end;s:go t if a<1;go m;t:go m;", 3, 1);
        meet("warps 1;m:go ex if a>3;go s if b<1;go m;s:go m;ex:end;", 1, 0);
    }

    private void splits() {
        check.about("splits");
        LaneWarps x = Check.with("warps 1;lane a;go x if a<2;go y if a<5;set b 1;go y;x:set b 2;y:set c 3;end;");
        stack(x, 0, 8, 255);
        x.cycles(2);
        stack(x, 6, 8, 255, 2, 6, 252, 5, 6, 3);
        x.cycles(1);
        stack(x, 6, 8, 255, 2, 6, 252);
        check.same("the topmost PART it is in", x.lane(0, 0, 6), 6);
        check.same("the topmost PART it is in", x.lane(0, 2, 6), 2);
        x.cycles(1);
        // those that go are at once where they meet: such a PART is not laid; the PART they left stays below
        stack(x, 6, 8, 255, 6, 6, 252, 3, 6, 224);
        check.same("the topmost PART it is in", x.lane(0, 3, 6), 6);
        check.same("the topmost PART it is in", x.lane(0, 5, 6), 3);
        x.cycles(2);
        stack(x, 6, 8, 255);
        x.cycles(1);
        stack(x, 7, 8, 255);
        x.cycles(1);
        stack(x);
        eachLane(x, 1, 2, 2, 0, 0, 0, 1, 1, 1);
        check.same("CYCLES", x.has(2), 8);
        check.same("LIVE", x.has(4), 0);
        LaneWarps both = Check.with("warps 1;lane a;go x if a<2;x:end;");
        both.cycles(2);
        stack(both, 2, 3, 255);
        LaneWarps all = Check.with("warps 1;lane a;go x if a<8;set b 1;x:end;");
        all.cycles(2);
        stack(all, 3, 4, 255);
        LaneWarps none = Check.with("warps 1;lane a;go x if a>7;set b 1;x:end;");
        none.cycles(2);
        stack(none, 2, 4, 255);
        LaneWarps some = Check.with("warps 1;lane a;go x if a=3;end;x:set b 1;end;");
        some.cycles(2);
        stack(some, 5, 5, 255, 2, 5, 247, 3, 5, 8);
        some.cycles(2);
        stack(some, 5, 5, 247, 2, 5, 247);
        check.same("LIVE", some.warp(0, 0), 247);
        check.same("its LINE", some.lane(0, 3, 6), 5);
        some.cycles(1);
        stack(some);
    }

    /** Each go leaves one LANE behind that does not go to the END, so the STACK grows by two PARTS a time. */
    private void deepStack() {
        check.about("deep stack");
        StringBuilder s = new StringBuilder("warps 1;lane a;");
        for (int k = 0; k < 7; k++) {
            s.append("go ").append((char) ('e' + k)).append(" if a>").append(k).append(";end;").append((char) ('e' + k)).append(":");
        }
        LaneWarps x = Check.with(s + "set b 1;end;");
        x.cycles(8);
        check.same("PARTS", x.warp(0, 2), 15);
        check.same("top", x.part(0, 14, 2), 128);
        check.same("below", x.part(0, 13, 2), 64);
        check.same("lowest", x.part(0, 0, 2), 255);
        x.cycles(9);
        check.same("LIVE", x.has(4), 0);
        check.same("PARTS", x.warp(0, 2), 0);
        check.same("CYCLES", x.by(0, 0, 1), 17);
    }

    private void endsAtTheLastLine() {
        check.about("ends at the last line");
        LaneWarps x = Check.with("warps 1;x:lane a;add b b 1;go x if a>b;");
        x.cycles(3);
        // behind the go is the END: those that don't go have ENDED at once, though the END is where all MEET
        stack(x, 3, 3, 252, 0, 3, 252);
        check.same("LIVE", x.warp(0, 0), 252);
        check.same("LIVES", x.lane(0, 1, 4), 0);
        check.same("its LINE", x.lane(0, 1, 6), 3);
        x.cycles(3);
        stack(x, 3, 3, 248, 3, 3, 248, 0, 3, 248);
        check.same("ENDS behind", x.by(0, 0, 1), 21);
        LaneWarps last = Check.with("warps 1;set a 1;");
        last.cycles(1);
        check.same("behind the last LINE it has ENDED", last.has(4), 0);
        stack(last);
        LaneWarps fair = Check.with("warps 1;mode fair;set a 1;");
        fair.cycles(1);
        check.same("behind the last LINE it has ENDED", fair.has(4), 0);
        check.same("its LINE", fair.lane(0, 0, 6), 1);
        LaneWarps bar = Check.with("warps 2;bar;");
        bar.cycles(1);
        check.same("WAIT", bar.has(5), 8);
        bar.cycles(1);
        check.same("behind a bar, too", bar.has(4), 0);
        check.same("EPOCHS", bar.has(9), 1);
        stack(bar);
    }

    private void yields() {
        check.about("yields");
        LaneWarps x = Check.with("warps 1;lane a;go x if a<4;yield;set b 1;go y;x:set b 2;yield;set c 1;y:end;");
        x.cycles(3);
        stack(x, 8, 9, 255, 2, 8, 240, 6, 8, 15);
        x.cycles(1);
        stack(x, 8, 9, 255, 7, 8, 15, 2, 8, 240);
        x.cycles(1);
        stack(x, 8, 9, 255, 3, 8, 240, 7, 8, 15);
        x.cycles(1);
        stack(x, 8, 9, 255, 3, 8, 240);
        x.cycles(2);
        stack(x, 8, 9, 255);
        // the PART below is where it MEETS: no change of places
        LaneWarps below = Check.with("warps 1;lane a;go x if a<4;yield;set b 1;x:end;");
        below.cycles(2);
        stack(below, 4, 5, 255, 2, 4, 240);
        below.cycles(1);
        stack(below, 4, 5, 255, 3, 4, 240);
        // the PART below MEETS elsewhere: no change of places
        LaneWarps nested = Check.with("warps 1;lane a;go x if a<4;go y if a<6;yield;set b 1;y:set b 2;yield;set b 3;x:end;");
        nested.cycles(3);
        stack(nested, 8, 9, 255, 5, 8, 240, 3, 5, 192);
        nested.cycles(1);
        stack(nested, 8, 9, 255, 5, 8, 240, 4, 5, 192);
        // one that yields at its last LINE waits below, where it MEETS, till the other has come there
        LaneWarps late = Check.with("warps 1;lane a;go x if a<4;set b 1;yield;go y;x:yield;y:end;");
        late.cycles(3);
        stack(late, 6, 7, 255, 6, 6, 15, 2, 6, 240);
        late.cycles(2);
        stack(late, 6, 7, 255, 6, 6, 15, 4, 6, 240);
        late.cycles(1);
        stack(late, 6, 7, 255);
        LaneWarps alone = Check.with("warps 1;yield;end;");
        alone.cycles(1);
        stack(alone, 1, 2, 255);
    }

    private void yieldsAtTheEnd() {
        check.about("yields at the END");
        LaneWarps x = Check.with("warps 1;lane a;go x if a<4;set b 1;end;x:yield;");
        x.cycles(3);
        // LANES of the top PART alone have ENDED at the END: these are below by now
        stack(x, 5, 5, 255, 5, 5, 15, 2, 5, 240);
        check.same("LIVE", x.has(4), 8);
        check.same("its LINE", x.lane(0, 0, 6), 5);
        x.cycles(2);
        stack(x);
        check.same("LIVE", x.has(4), 0);
        check.same("ENDS behind", x.by(0, 0, 1), 5);
    }

    private void stackBars() {
        check.about("bars by stack");
        LaneWarps x = Check.with("warps 2;lane a;put 0 a;bar;get b 0;end;");
        x.cycles(3);
        check.same("WAIT", x.has(5), 8);
        check.same("its LINE", x.lane(0, 0, 6), 2);
        check.same("GO", x.warp(0, 5), 0);
        check.same("WAITS", x.lane(0, 7, 5), 1);
        x.cycles(2);
        check.same("EPOCHS", x.has(9), 0);
        x.cycles(1);
        check.same("EPOCHS", x.has(9), 1);
        check.same("WAIT", x.has(5), 0);
        check.same("its LINE", x.lane(0, 0, 6), 3);
        check.same("its LINE", x.lane(1, 0, 6), 3);
        check.same("READY", x.warp(0, 1), 3);
        check.same("READY", x.warp(1, 1), 6);
        check.same("ENDS", x.goes(1), 4);
        // a bar is over, too, when the others END
        LaneWarps ends = Check.with("warps 1;lane a;go x if a<4;bar;set b 1;end;x:end;");
        ends.cycles(3);
        check.same("LIVE", ends.warp(0, 0), 240);
        check.same("EPOCHS", ends.has(9), 0);
        ends.cycles(1);
        check.same("EPOCHS", ends.has(9), 1);
        stack(ends, 6, 6, 240, 3, 6, 240);
        LaneWarps other = Check.with("warps 2;warp a;go x if a=1;bar;end;x:set b 1;end;");
        other.cycles(5);
        check.same("WAIT", other.has(5), 8);
        other.cycles(2);
        check.same("LIVE", other.has(4), 8);
        check.same("EPOCHS", other.has(9), 1);
        check.same("WAIT", other.has(5), 0);
        // behind the bar is where the PART MEETS
        LaneWarps meets = Check.with("warps 1;lane a;go x if a<4;go z;x:set b 1;bar;z:end;");
        meets.cycles(5);
        check.same("STUCK", meets.goes(0), 1);
        LaneWarps popped = Check.with("warps 1;go x if a=1;lane a;go y if a<4;go z;y:end;x:set b 1;z:bar;end;");
        popped.cycles(9);
        check.same("ENDS", popped.by(0, 0, 0), 0);
    }

    private void fairBars() {
        check.about("bars by fair");
        LaneWarps x = Check.with("warps 1;mode fair;lane a;go x if a<4;bar;x:end;");
        x.cycles(3);
        // TURN is 2: LANES 2, 0, 1, 3 are at x
        check.same("LIVE", x.warp(0, 0), 240);
        check.same("WAIT", x.has(5), 0);
        x.cycles(1);
        check.same("EPOCHS", x.has(9), 1);
        check.same("WAIT", x.has(5), 0);
        check.same("its LINE", x.lane(0, 5, 6), 3);
        x.cycles(1);
        check.same("LIVE", x.has(4), 0);
    }

    private void unlikeBars() {
        check.about("unlike bars");
        LaneWarps x = Check.with("warps 1;mode fair;lane a;go x if a<4;bar;set b 1;end;x:bar;set c 1;end;");
        x.cycles(3);
        check.same("WAIT", x.has(5), 4);
        check.same("its LINE", x.lane(0, 0, 6), 5);
        check.same("its LINE", x.lane(0, 7, 6), 2);
        x.cycles(1);
        check.same("EPOCHS", x.has(9), 1);
        check.same("its LINE", x.lane(0, 0, 6), 6);
        check.same("its LINE", x.lane(0, 7, 6), 3);
        LaneWarps warps = Check.with("warps 2;warp a;go x if a=1;bar;set b 1;end;x:bar;set c 1;end;");
        warps.cycles(6);
        check.same("EPOCHS", warps.has(9), 1);
        check.same("its LINE", warps.lane(0, 0, 6), 3);
        check.same("its LINE", warps.lane(1, 0, 6), 6);
    }

    private void fairTurns() {
        check.about("turns by fair");
        LaneWarps x = Check.with("warps 1;mode fair;lane a;rem b a 2;go x if b=1;set c 1;end;x:set c 2;end;");
        int[][] due = {{0, 255, 1}, {1, 255, 2}, {2, 255, 3}, {5, 170, 4}, {3, 85, 5}, {6, 170, 6}, {4, 85, 7}};
        for (int k = 0; k < due.length; k++) {
            check.same("LINE", x.next(1), due[k][0]);
            check.same("LANES", x.next(2), due[k][1]);
            x.cycles(1);
            check.same("TURN", x.warp(0, 3), due[k][2]);
            check.same("kept", x.kept(k, 3), due[k][1]);
        }
        check.same("LIVE", x.has(4), 0);
        LaneWarps y = Check.with("warps 1;mode fair;x:go x;");
        y.cycles(8);
        check.same("TURN behind 7", y.warp(0, 3), 0);
        // TURN goes round past LANES that have ENDED
        LaneWarps z = Check.with("warps 1;mode fair;lane a;go x if a=2;end;x:add b b 1;go x;");
        z.cycles(4);
        check.same("LIVE", z.warp(0, 0), 4);
        check.same("TURN", z.warp(0, 3), 4);
        z.cycles(1);
        check.same("TURN", z.warp(0, 3), 3);
        check.same("b", z.lane(0, 2, 1), 1);
    }

    private void wentBy(String text, int... due) {
        LaneWarps x = Check.with(text);
        for (int k = 0; k < due.length; k++) {
            check.same("cycle " + k, x.next(0), due[k]);
            x.cycles(1);
        }
    }

    private void orders() {
        check.about("orders");
        wentBy("warps 3;set a 1;set b 1;end;", 0, 0, 0, 1, 1, 1, 2, 2, 2, NONE);
        wentBy("warps 3;order turns;set a 1;set b 1;end;", 0, 1, 2, 0, 1, 2, 0, 1, 2, NONE);
        wentBy("warps 2;load a 0;set b 1;end;", 0, 1, NONE, 0, 0, 1, 1, NONE);
        wentBy("warps 2;order turns;load a 0;set b 1;end;", 0, 1, NONE, 0, 1, 0, 1, NONE);
        wentBy("warps 4;order turns;warp a;go x if a=1;load b 0;set c 1;x:end;", 0, 1, 2, 3, 0, 1, 2, 3, 0, 1, 2, 3, 0, 2);
    }

    private void epochs() {
        check.about("epochs");
        LaneWarps x = done("warps 1;lane a;put a a;bar;add b a 1;rem b b 8;get c b;end;");
        check.same("a bar between", x.has(6), 0);
        check.same("EPOCHS", x.has(9), 1);
        LaneWarps y = done("warps 1;lane a;put a a;add b a 1;rem b b 8;get c b;end;");
        check.same("no bar between", y.has(6), 8);
        LaneWarps z = done("warps 1;lane a;store a 1;load b a;store a 2;end;");
        check.same("one LANE alone", z.has(6), 0);
        LaneWarps w = done("warps 2;lane a;store a 1;end;");
        check.same("LANES of two WARPS", w.has(6), 8);
        LaneWarps ids = done("warps 4;lane a;warp b;mul c b 8;add c c a;go x if c=1;go y if c=8;end;x:store 5 1;end;y:load d 5;end;");
        check.same("LANE 1 of WARP 0, LANE 0 of WARP 1", ids.raced(false, 5), 1);
        for (int one = 0; one < 32; one += 3) {
            LaneWarps two = done("warps 4;lane a;warp b;mul c b 8;add c c a;go x if c=" + one + ";go y if c=31;end;x:store 5 1;end;y:load d 5;end;");
            check.same("LANES " + one + " and 31", two.raced(false, 5), 1);
        }
        LaneWarps later = done("warps 1;lane a;put a a;bar;get c 0;end;");
        check.same("written ahead of the bar", later.has(6), 0);
        LaneWarps stays = done("warps 1;store 4 1;bar;load a 4;bar;end;");
        check.same("from then on", stays.raced(false, 4), 1);
        check.same("EPOCHS", stays.has(9), 2);
        LaneWarps read = done("warps 1;load a 4;bar;lane a;go x if a<7;store 4 1;x:end;");
        check.same("read ahead of the bar", read.has(6), 0);
        LaneWarps first = done("warps 1;load a 4;lane a;go x if a<7;store 4 1;x:end;");
        check.same("read ahead of being written", first.raced(false, 4), 1);
        LaneWarps unlike = done("warps 1;put 5 1;store 6 1;end;");
        check.same("far 5", unlike.raced(false, 5), 0);
        check.same("near 5", unlike.raced(true, 5), 1);
        check.same("far 6", unlike.raced(false, 6), 1);
        check.same("near 6", unlike.raced(true, 6), 0);
    }

    private void stuckAmongOthers() {
        check.about("stuck among others");
        String text = "warps 2;warp b;lane a;go x if b=1;go x if a<4;bar;x:end;";
        LaneWarps x = Check.with(text);
        // WARP 0 is STUCK behind 5 CYCLES, WARP 1 has 4 LINES to go till it ENDS
        check.same("STUCK", x.goes(0), 1);
        check.same("behind", x.goes(1), 9);
        LaneWarps y = Check.with("warps 2;warp b;lane a;go z if b=1;go x if a<4;bar;x:end;z:go z;");
        check.same("SPINS", y.goes(0), 2);
        check.same("a round", y.goes(2), 1);
        // what is still to come of READY does not put off being STUCK
        LaneWarps z = Check.with("warps 2;warp b;lane a;go z if b=1;go x if a<4;bar;x:end;z:load c 0;");
        check.same("STUCK", z.goes(0), 1);
        check.same("behind", z.goes(1), 9);
    }

    private void goes(String text, int... due) {
        LaneWarps x = Check.with(text);
        for (int what = 0; what < 3; what++) {
            check.same("goes(" + what + ") of " + text, x.goes(what), due[what]);
        }
    }

    private void spins() {
        check.about("spins");
        // at BEGIN none has gone last yet, so the first round is not as the others
        goes("warps 1;x:go x;", 2, 2, 1);
        goes("warps 1;x:yield;go x;", 2, 3, 2);
        goes("warps 1;x:load a 0;go x;", 2, 5, 4);
        goes("warps 1;mode fair;x:go x;", 2, 9, 8);
        goes("warps 2;order turns;x:go x;", 2, 3, 2);
        goes("warps 2;x:go x;", 2, 2, 1);
        goes("warps 1;x:bar;go x;", 2, 3, 2);
        // the near memory, the far memory, a register differ
        goes("warps 1;x:get a 0;add a a 1;rem a a 3;put 0 a;go x;", 2, 16, 15);
        goes("warps 1;x:load a 0;add a a 1;rem a a 2;store 0 a;set a 0;go x;", 2, 21, 20);
        goes("warps 1;x:add a a 1;rem a a 5;go x;", 2, 16, 15);
        // READY of a WARP that has ENDED counts down
        goes("warps 2;warp a;go x if a=0;y:go y;x:lane b;mul b b 8;load c b;", 2, 15, 1);
    }
}
