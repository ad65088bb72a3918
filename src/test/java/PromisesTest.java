/** Each promise of the document by its number: ordinary inputs, the edges that it names, wrong inputs. */
public final class PromisesTest {
    private static final int NONE = LaneWarps.NONE;
    private static final int NOTHING = LaneWarps.NOTHING;
    private static final String SPLIT = "warps 1;lane a;go x if a<4;set b 1;go y;x:set b 2;y:add b b a;end;";
    private static final String COUNT = "warps 1;load a 0;x:sub a a 1;go x if a>0;end;";
    private static final String FOREVER = "warps 1;x:go x;";

    private final Check check = new Check();

    public static void main(String[] args) {
        PromisesTest test = new PromisesTest();
        test.newObject1();
        test.feedAndEnd2and3();
        test.program4();
        test.fault5();
        test.has6();
        test.line7();
        test.lane8();
        test.warp9();
        test.part10();
        test.word11();
        test.raced12();
        test.kept13();
        test.next14();
        test.goes15();
        test.later16();
        test.by17();
        test.skew18();
        test.alone19();
        test.agrees20();
        test.likely21();
        test.tells22();
        test.cycles23();
        test.poke24();
        test.set25();
        test.begin26();
        test.chance27();
        test.undo28();
        test.seed29();
        test.status30();
        test.check.close("PromisesTest");
    }

    private void newObject1() {
        check.about("1 a new object");
        LaneWarps x = new LaneWarps();
        check.same("NONE", NONE, -1);
        check.same("NOTHING", NOTHING, -1000000);
        for (int what = 0; what < 14; what++) {
            check.same("has", x.has(what), 0);
        }
        check.same("line", x.line(0, 0), NOTHING);
        check.same("lane", x.lane(0, 0, 0), NOTHING);
        check.same("warp", x.warp(0, 0), NONE);
        check.same("part", x.part(0, 0, 0), NONE);
        check.same("word", x.word(false, 0), NOTHING);
        check.same("word", x.word(true, 0), NOTHING);
        check.same("raced", x.raced(true, 0), NONE);
        check.same("kept", x.kept(0, 0), NONE);
        check.same("next", x.next(0), NONE);
        check.same("goes", x.goes(0), NONE);
        check.same("later", x.later(0, 0, 0, 0), NOTHING);
        check.same("by", x.by(0, 0, 0), NONE);
        check.same("skew", x.skew(0), NONE);
        check.same("alone", x.alone(0, 0, 0), NOTHING);
        check.same("agrees", x.agrees(), NONE);
        check.same("likely", x.likely(0, 0, NONE), NONE);
        check.same("tells", x.tells(0), NONE);
        check.same("cycles", x.cycles(1), NONE);
        check.same("poke", x.poke(false, 0, 0), NOTHING);
        check.same("set", x.set(0, 0, 0), false);
        check.same("begin", x.begin(), false);
        check.same("chance", x.chance(1), NONE);
        check.same("undo", x.undo(), false);
        check.same("fault", x.fault(0), 0);
        check.same("fault", x.fault(1), NONE);
    }

    private void feedAndEnd2and3() {
        check.about("2 feed, 3 end");
        LaneWarps x = new LaneWarps();
        check.same("end(0)", x.end(0), true);
        check.same("end(1)", x.end(1), false);
        check.same("end(-1)", x.end(-1), false);
        for (int k = 1; k <= 80; k++) {
            check.same("feed", x.feed(0, -1, Integer.MIN_VALUE, 5, 6), 20 * k);
        }
        check.same("feed", x.feed(0, 0, 0, 0, 0), NONE);
        check.same("status(0)", x.status(0), 3);
        check.same("end(1601)", x.end(1601), false);
        check.same("end(1600)", x.end(1600), true);
        check.same("end(1581)", x.end(1581), true);
        check.same("feed", x.feed(0, 0, 0, 0, 0), NONE);
        check.same("end(1580)", x.end(1580), true);
        check.same("feed", x.feed(0, 0, 0, 0, 0), 1600);
        check.same("status(0)", x.status(0), 5);
        check.same("end(0)", x.end(0), true);
        // "warps 1;set a 12;end": the bytes come the highest first, number by number
        x.feed(0x77617270, 0x7320313b, 0x73657420, 0x61203132, 0x3b656e64);
        check.same("end(17)", x.end(17), true);
        check.same("program()", x.program(), 1);
        check.same("line(0, 2)", x.line(0, 2), 12);
    }

    private void program4() {
        check.about("4 program");
        LaneWarps x = new LaneWarps();
        check.same("program()", Check.tell(x, "warps 2;word 3 9;mode fair;order turns;set a 1;end;"), 2);
        check.same("the tape goes", x.end(1), false);
        check.same("warps", x.has(1), 2);
        check.same("mode", x.has(10), 1);
        check.same("order", x.has(11), 1);
        check.same("word", x.word(false, 3), 9);
        x.seed(77);
        x.set(0, 0, 3);
        x.cycles(1);
        check.same("with a fault", Check.tell(x, "warps 1;word 3 4;yield;x:bar;go x;!"), NONE);
        check.same("all stays", x.has(0), 2);
        check.same("all stays", x.has(1), 2);
        check.same("all stays", x.line(0, 0), 0);
        check.same("all stays", x.goes(1), 3);
        check.same("all stays", x.likely(0, 4, NONE), 16);
        check.same("the tape goes with a fault, too", x.end(1), false);
        check.same("all stays", x.has(2), 1);
        check.same("all stays", x.has(8), 2);
        check.same("all stays", x.has(12), 3);
        check.same("all stays", x.lane(0, 0, 0), 1);
        check.same("all stays", x.by(0, 0, 1), 4);
        check.same("empty", x.program(), NONE);
        check.same("its fault", x.fault(0), 1);
        check.same("its place", x.fault(1), 0);
        check.same("program()", Check.tell(x, "warps 1;lane a;end;"), 2);
        check.same("mode without", x.has(10), 0);
        check.same("order without", x.has(11), 0);
        check.same("SKEW is 0", x.has(12), 0);
        check.same("at BEGIN", x.has(2), 0);
        check.same("nothing can be undone", x.undo(), false);
        check.same("word", x.word(false, 3), 0);
        x.chance(1);
        LaneWarps y = Check.with("warps 1;lane a;end;");
        y.seed(77);
        y.chance(1);
        for (int k = 0; k < 64; k++) {
            check.same("the seed stays", x.word(false, k), y.word(false, k));
        }
        check.same("last mode, order, word count", Check.tell(x,
                "warps 1;mode fair;mode stack;order age;order turns;word 1 5;word 1 6;end;"), 1);
        check.same("mode", x.has(10), 0);
        check.same("order", x.has(11), 1);
        check.same("word", x.word(false, 1), 6);
        programsOneAfterTheOther();
        askedOfAnotherProgram();
    }

    private void programsOneAfterTheOther() {
        LaneWarps x = new LaneWarps();
        for (int k = 0; k < 3; k++) {
            Check.tell(x, "warps 3;word 1 6;mode fair;order turns;x:set a 1;go x if a<1;end;");
            for (int again = 0; again < 2; again++) {
                check.same("program()", Check.tell(x, "warps 1;x:end;"), 1);
                check.same("warps", x.has(1), 1);
                check.same("mode", x.has(10), 0);
                check.same("order", x.has(11), 0);
                check.same("word", x.word(false, 1), 0);
                check.same("line", x.line(0, 1), NOTHING);
                check.same("line", x.line(0, 6), NOTHING);
                check.same("LIVE", x.has(4), 8);
            }
        }
    }

    /** What has been asked of one program must not be answered for the next one. */
    private void askedOfAnotherProgram() {
        LaneWarps x = new LaneWarps();
        for (int k = 1; k < 4; k++) {
            Check.tell(x, "warps 1;load a " + k + ";x:sub a a 1;go x if a>0;set a " + k + ";" + "yield;".repeat(k) + "end;");
            check.same("goes", x.goes(1), 7 + k);
            check.same("by", x.by(1, 1, 1), 7 + k);
            check.same("skew", x.skew(1), 7 + k);
            check.same("alone", x.alone(0, 3, 0), k);
            check.same("alone", x.alone(0, 3, 4), 7 + k);
            check.same("likely", x.likely(0, 7 + k, NONE), 16);
            check.same("likely", x.likely(k, 7 + k, NONE), 2);
            check.same("tells", x.tells(0), k);
            x.cycles(20);
            check.same("agrees", x.agrees(), 8);
        }
    }

    private void fault5() {
        check.about("5 fault");
        LaneWarps x = new LaneWarps();
        check.same("program()", Check.tell(x, "warps 7;"), NONE);
        check.same("fault(0)", x.fault(0), 2);
        check.same("fault(1)", x.fault(1), 6);
        check.same("fault(2)", x.fault(2), NONE);
        check.same("fault(-1)", x.fault(-1), NONE);
        Check.tell(x, FOREVER);
        check.same("of the latest", x.fault(0), 0);
        check.same("of the latest", x.fault(1), NONE);
    }

    private void has6() {
        check.about("6 has");
        LaneWarps x = Check.with("warps 3;mode fair;order turns;put 0 1;bar;lane a;go x if a=0;bar;x:end;");
        int[] begin = {6, 3, 0, 0, 24, 0, 0, 0, 0, 0, 1, 1, 0, 0};
        for (int what = 0; what < begin.length; what++) {
            check.same("has(" + what + ") at BEGIN", x.has(what), begin[what]);
        }
        x.cycles(4);
        int[] then = {6, 3, 4, 4, 24, 8, 1, 4, 1, 0, 1, 1, 0, 0};
        for (int what = 0; what < then.length; what++) {
            check.same("has(" + what + ")", x.has(what), then[what]);
        }
        x.cycles(1);
        check.same("went last", x.has(13), 1);
        check.same("WAIT", x.has(5), 16);
        x.cycles(1);
        check.same("EPOCHS", x.has(9), 1);
        check.same("WAIT", x.has(5), 0);
        check.same("RACED", x.has(6), 1);
        x.cycles(40);
        check.same("LIVE", x.has(4), 0);
        check.same("EPOCHS", x.has(9), 2);
        check.same("ACTS", x.has(8), 4);
        check.same("KEPT", x.has(7), 21);
        check.same("LINES done", x.has(3), 21);
        check.same("CYCLE", x.has(2), 46);
        check.same("has(14)", x.has(14), NONE);
        check.same("has(-1)", x.has(-1), NONE);
        LaneWarps y = Check.with(FOREVER);
        y.cycles(40);
        check.same("KEPT at most 30", y.has(7), 30);
        check.same("LINES done", y.has(3), 40);
    }

    private void row(LaneWarps x, int line, int... due) {
        for (int what = 0; what < due.length; what++) {
            check.same("line(" + line + ", " + what + ")", x.line(line, what), due[what]);
        }
    }

    private void line7() {
        check.about("7 line");
        int no = NOTHING;
        LaneWarps x = Check.with("warps 1;set a 5;add b c d;sub c 1 2;mul d a 0;rem a 999 b;lane b;warp c;load d 7;"
                .concat("store a 8;get b c;put 1 d;swap a 3;z:go z if a<3;go z if 4=b;go y if c>d;go y;bar;yield;y:end;"));
        row(x, 0, 0, 0, 5, no, no, no, no);
        row(x, 1, 1, 1, -3, -4, no, no, no);
        row(x, 2, 2, 2, 1, 2, no, no, no);
        row(x, 3, 3, 3, -1, 0, no, no, no);
        row(x, 4, 4, 0, 999, -2, no, no, no);
        row(x, 5, 5, 1, no, no, no, no, no);
        row(x, 6, 6, 2, no, no, no, no, no);
        row(x, 7, 7, 3, 7, no, no, no, no);
        row(x, 8, 8, no, -1, 8, no, no, no);
        row(x, 9, 9, 1, -3, no, no, no, no);
        row(x, 10, 10, no, 1, -4, no, no, no);
        row(x, 11, 11, 0, 3, no, no, no, no);
        row(x, 12, 12, no, -1, 3, 12, 0, 13);
        row(x, 13, 12, no, 4, -2, 12, 1, 14);
        row(x, 14, 12, no, -3, -4, 18, 2, 18);
        row(x, 15, 12, no, no, no, 18, no, no);
        row(x, 16, 13, no, no, no, no, no, no);
        row(x, 17, 14, no, no, no, no, no, no);
        row(x, 18, 15, no, no, no, no, no, no);
        check.same("line(19, 0)", x.line(19, 0), no);
        check.same("line(-1, 0)", x.line(-1, 0), no);
        check.same("line(0, 7)", x.line(0, 7), no);
        check.same("line(0, -1)", x.line(0, -1), no);
    }

    private void lane8() {
        check.about("8 lane");
        LaneWarps x = Check.with("warps 2;warp a;lane b;set c 7;sub d c 9;go x if b>5;bar;x:end;");
        x.cycles(11);
        check.same("a", x.lane(1, 3, 0), 1);
        check.same("b", x.lane(1, 3, 1), 3);
        check.same("c", x.lane(1, 3, 2), 7);
        check.same("d", x.lane(1, 3, 3), -2);
        check.same("LIVES", x.lane(1, 3, 4), 1);
        check.same("WAITS", x.lane(1, 3, 5), 0);
        check.same("its LINE", x.lane(1, 3, 6), 5);
        check.same("its LINE", x.lane(1, 6, 6), 6);
        check.same("lane(2, 0, 0)", x.lane(2, 0, 0), NOTHING);
        check.same("lane(-1, 0, 0)", x.lane(-1, 0, 0), NOTHING);
        check.same("lane(0, 8, 0)", x.lane(0, 8, 0), NOTHING);
        check.same("lane(0, -1, 0)", x.lane(0, -1, 0), NOTHING);
        check.same("lane(0, 0, 7)", x.lane(0, 0, 7), NOTHING);
        check.same("lane(0, 0, -1)", x.lane(0, 0, -1), NOTHING);
        x.set(1, 0, 0);
        x.cycles(400);
        check.same("LIVES", x.lane(1, 7, 4), 0);
        check.same("its LINE when it has ENDED", x.lane(1, 7, 6), 7);
    }

    private void warp9() {
        check.about("9 warp");
        LaneWarps x = Check.with("warps 2;lane a;load b a;go x if a<1;bar;x:end;");
        x.cycles(2);
        check.same("LIVE", x.warp(0, 0), 255);
        check.same("READY", x.warp(0, 1), 4);
        check.same("PARTS", x.warp(0, 2), 1);
        check.same("TURN", x.warp(0, 3), 0);
        check.same("LINES", x.warp(0, 4), 2);
        check.same("GO", x.warp(0, 5), 0);
        check.same("GO", x.warp(1, 5), 1);
        check.same("warp(2, 0)", x.warp(2, 0), NONE);
        check.same("warp(-1, 0)", x.warp(-1, 0), NONE);
        check.same("warp(0, 6)", x.warp(0, 6), NONE);
        check.same("warp(0, -1)", x.warp(0, -1), NONE);
        x.set(1, 0, 0);
        x.cycles(6);
        check.same("PARTS by fair", x.warp(0, 2), 0);
        check.same("TURN", x.warp(0, 3), 4);
        check.same("LINES", x.warp(0, 4), 4);
        check.same("LIVE", x.warp(0, 0), 255);
        x.cycles(1);
        check.same("LIVE", x.warp(0, 0), 254);
        check.same("TURN", x.warp(0, 3), 1);
        check.same("part by fair", x.part(0, 0, 0), NONE);
    }

    private void part10() {
        check.about("10 part");
        LaneWarps x = Check.with(SPLIT);
        x.cycles(2);
        int[][] due = {{5, 7, 255}, {2, 5, 240}, {4, 5, 15}};
        for (int k = 0; k < 3; k++) {
            for (int what = 0; what < 3; what++) {
                check.same("part(0, " + k + ", " + what + ")", x.part(0, k, what), due[k][what]);
            }
        }
        check.same("part(0, 3, 0)", x.part(0, 3, 0), NONE);
        check.same("part(0, -1, 0)", x.part(0, -1, 0), NONE);
        check.same("part(1, 0, 0)", x.part(1, 0, 0), NONE);
        check.same("part(-1, 0, 0)", x.part(-1, 0, 0), NONE);
        check.same("part(0, 0, 3)", x.part(0, 0, 3), NONE);
        check.same("part(0, 0, -1)", x.part(0, 0, -1), NONE);
        x.cycles(5);
        check.same("all have ENDED", x.part(0, 0, 0), NONE);
    }

    private void word11() {
        check.about("11 word");
        LaneWarps x = Check.with("warps 1;word 0 5;word 63 999;put 31 4;store 62 7;end;");
        x.cycles(9);
        check.same("far 0", x.word(false, 0), 5);
        check.same("far 63", x.word(false, 63), 999);
        check.same("far 62", x.word(false, 62), 7);
        check.same("near 31", x.word(true, 31), 4);
        check.same("near 0", x.word(true, 0), 0);
        check.same("far 64", x.word(false, 64), NOTHING);
        check.same("near 32", x.word(true, 32), NOTHING);
        check.same("far -1", x.word(false, -1), NOTHING);
        check.same("near -1", x.word(true, -1), NOTHING);
    }

    private void raced12() {
        check.about("12 raced");
        LaneWarps x = Check.with("warps 1;store 63 1;put 31 1;lane a;store a 1;load b 5;get c 9;swap d 8;end;");
        x.cycles(100);
        check.same("far 63", x.raced(false, 63), 1);
        check.same("near 31", x.raced(true, 31), 1);
        check.same("written by one, read by all", x.raced(false, 5), 1);
        check.same("written by one", x.raced(false, 4), 0);
        check.same("only read", x.raced(true, 9), 0);
        check.same("only swapped", x.raced(true, 8), 0);
        check.same("RACED words", x.has(6), 3);
        check.same("far 64", x.raced(false, 64), NONE);
        check.same("near 32", x.raced(true, 32), NONE);
        check.same("far -1", x.raced(false, -1), NONE);
        x.begin();
        check.same("nothing at BEGIN", x.raced(false, 63), 0);
    }

    private void kept13() {
        check.about("13 kept");
        LaneWarps x = Check.with("warps 2;order turns;load a 9;x:go x;");
        x.cycles(3);
        int[][] due = {{0, 0, 0, 255, 3}, {1, 1, 0, 255, 3}};
        for (int k = 0; k < 2; k++) {
            for (int what = 0; what < 5; what++) {
                check.same("kept(" + k + ", " + what + ")", x.kept(k, what), due[k][what]);
            }
        }
        check.same("kept(2, 0)", x.kept(2, 0), NONE);
        check.same("kept(-1, 0)", x.kept(-1, 0), NONE);
        check.same("kept(0, 5)", x.kept(0, 5), NONE);
        check.same("kept(0, -1)", x.kept(0, -1), NONE);
        x.cycles(37);
        check.same("the oldest told", x.kept(0, 0), 10);
        check.same("the oldest told", x.kept(0, 1), 1);
        check.same("the latest", x.kept(29, 0), 39);
        check.same("the latest", x.kept(29, 2), 1);
        check.same("kept(30, 0)", x.kept(30, 0), NONE);
    }

    private void next14() {
        check.about("14 next");
        LaneWarps x = Check.with("warps 2;word 0 3;lane a;load b a;mul c a 8;load d c;end;");
        check.same("WARP", x.next(0), 0);
        check.same("LINE", x.next(1), 0);
        check.same("LANES", x.next(2), 255);
        check.same("TAKES", x.next(3), 1);
        check.same("next(4)", x.next(4), NONE);
        check.same("next(-1)", x.next(-1), NONE);
        x.cycles(1);
        check.same("LINE", x.next(1), 1);
        check.same("TAKES", x.next(3), 3);
        check.same("it is not done", x.lane(0, 0, 1), 0);
        check.same("it is not done", x.has(3), 1);
        x.cycles(1);
        check.same("WARP", x.next(0), 1);
        x.cycles(2);
        check.same("WARP", x.next(0), 0);
        x.cycles(1);
        check.same("TAKES", x.next(3), 10);
        x.cycles(2);
        check.same("WARP", x.next(0), 1);
        x.cycles(1);
        check.same("none goes", x.next(0), NONE);
        LaneWarps y = Check.with(FOREVER);
        for (int k = 0; k < 24; k++) {
            y.cycles(400);
        }
        y.cycles(398);
        check.same("at CYCLE 9998", y.next(0), 0);
        y.cycles(1);
        check.same("at CYCLE 9999", y.next(0), NONE);
        check.same("it could GO", y.warp(0, 5), 1);
    }

    private void three(String call, int got0, int got1, int got2, int... due) {
        check.same(call + " 0", got0, due[0]);
        check.same(call + " 1", got1, due[1]);
        check.same(call + " 2", got2, due[2]);
    }

    private void goes(LaneWarps x, int... due) {
        three("goes", x.goes(0), x.goes(1), x.goes(2), due);
    }

    private void goes15() {
        check.about("15 goes");
        goes(Check.with(SPLIT), 0, 7, NONE);
        LaneWarps stuck = Check.with("warps 1;lane a;go x if a<4;bar;x:end;");
        goes(stuck, 1, 3, NONE);
        stuck.cycles(9);
        goes(stuck, 1, 0, NONE);
        LaneWarps spins = Check.with("warps 1;set a 1;x:load b 0;go x;");
        goes(spins, 2, 5, 4);
        spins.cycles(2);
        goes(spins, 2, 4, 4);
        LaneWarps counter = Check.with("warps 1;x:add a a 1;go x if a<199;end;");
        goes(counter, 0, 399, NONE);
        counter.cycles(399);
        goes(counter, 0, 0, NONE);
        goes(Check.with("warps 1;set b 1;x:add a a 1;go x if a<199;end;"), 0, 400, NONE);
        goes(Check.with("warps 1;set b 1;set c 1;x:add a a 1;go x if a<199;end;"), 3, NONE, NONE);
        goes(Check.with("warps 1;x:add a a 1;rem a a 133;go x;"), 2, 400, 399);
        goes(Check.with("warps 1;set b 1;x:add a a 1;rem a a 133;go x;"), 2, 400, 399);
        goes(Check.with("warps 1;set b 1;set c 1;x:add a a 1;rem a a 133;go x;"), 3, NONE, NONE);
        LaneWarps longest = Check.with("warps 1;x:add a a 1;rem a a 100;yield;go x;");
        goes(longest, 3, NONE, NONE);
        longest.cycles(4);
        goes(longest, 2, 400, 400);
        LaneWarps x = Check.with(FOREVER);
        check.same("goes(3)", x.goes(3), NONE);
        check.same("goes(-1)", x.goes(-1), NONE);
        for (int k = 0; k < 24; k++) {
            x.cycles(400);
        }
        x.cycles(399);
        goes(x, 2, 1, 1);
        LaneWarps poked = Check.with(COUNT);
        goes(poked, 0, 6, NONE);
        poked.poke(false, 0, 5);
        goes(poked, 0, 14, NONE);
        poked.undo();
        goes(poked, 0, 6, NONE);
    }

    private void later16() {
        check.about("16 later");
        LaneWarps x = Check.with("warps 2;x:add a a 1;warp b;go x;");
        check.same("now", x.later(0, 0, 0, 0), 0);
        check.same("later(1)", x.later(1, 0, 7, 0), 1);
        check.same("later(1)", x.later(1, 1, 7, 0), 0);
        check.same("later(400)", x.later(400, 0, 7, 0), 134);
        check.same("all stays", x.has(2), 0);
        check.same("later(401)", x.later(401, 0, 0, 0), NOTHING);
        check.same("later(-1)", x.later(-1, 0, 0, 0), NOTHING);
        check.same("warp 2", x.later(1, 2, 0, 0), NOTHING);
        check.same("warp -1", x.later(1, -1, 0, 0), NOTHING);
        check.same("lane 8", x.later(1, 0, 8, 0), NOTHING);
        check.same("lane -1", x.later(1, 0, -1, 0), NOTHING);
        check.same("register 4", x.later(1, 0, 0, 4), NOTHING);
        check.same("register -1", x.later(1, 0, 0, -1), NOTHING);
        x.set(0, 1, 0);
        check.same("WARP 1", x.later(4, 1, 0, 1), 1);
        check.same("WARP 1", x.later(3, 1, 0, 1), 0);
        for (int k = 0; k < 24; k++) {
            x.cycles(400);
        }
        x.cycles(399);
        check.same("beyond CYCLE 9999", x.later(6, 0, 0, 0) - x.lane(0, 0, 0), 1);
    }

    private void by(LaneWarps x, int mode, int order, int... due) {
        three("by(" + mode + ", " + order + ")", x.by(mode, order, 0), x.by(mode, order, 1), x.by(mode, order, 2), due);
    }

    private void by17() {
        check.about("17 by");
        LaneWarps x = Check.with("warps 1;lane a;go x if a<4;bar;x:end;");
        x.cycles(2);
        x.poke(false, 0, 1);
        by(x, 0, 0, 1, 3, NONE);
        by(x, 0, 1, 1, 3, NONE);
        by(x, 1, 0, 0, 5, NONE);
        by(x, 1, 1, 0, 5, NONE);
        check.same("by(2, 0, 0)", x.by(2, 0, 0), NONE);
        check.same("by(-1, 0, 0)", x.by(-1, 0, 0), NONE);
        check.same("by(0, 2, 0)", x.by(0, 2, 0), NONE);
        check.same("by(0, -1, 0)", x.by(0, -1, 0), NONE);
        check.same("by(0, 0, 3)", x.by(0, 0, 3), NONE);
        check.same("by(0, 0, -1)", x.by(0, 0, -1), NONE);
        check.same("all stays", x.has(2), 2);
        by(Check.with("warps 1;set a 1;x:load b 0;go x;"), 1, 0, 2, 17, 16);
        by(Check.with("warps 1;x:add a a 1;go x;"), 0, 0, 3, NONE, NONE);
        LaneWarps far = Check.with(COUNT);
        far.poke(false, 0, 9);
        by(far, 0, 0, 0, 6, NONE);
        // LANES 0 .. 3 ask words 0, 4, 8, 12: four in one BANK by SKEW 0, one in each by SKEW 1
        LaneWarps banks = Check.with("warps 1;lane a;rem a a 4;mul a a 4;get b a;end;");
        by(banks, 0, 0, 0, 8, NONE);
        banks.set(0, 0, 1);
        by(banks, 0, 0, 0, 5, NONE);
        // WARP 0 first to its end, or both by turns while their words come
        LaneWarps two = Check.with("warps 2;load a 0;set b 1;set b 2;set b 3;end;");
        by(two, 0, 0, 0, 11, NONE);
        by(two, 0, 1, 0, 11, NONE);
    }

    private void skew18() {
        check.about("18 skew");
        LaneWarps x = Check.with("warps 1;lane a;mul a a 4;get b a;end;");
        check.same("SKEW", x.skew(0), 1);
        check.same("CYCLES", x.skew(1), 5);
        x.set(0, 0, 2);
        x.cycles(2);
        check.same("SKEW", x.skew(0), 1);
        check.same("CYCLES", x.skew(1), 5);
        check.same("all stays", x.has(12), 2);
        check.same("skew(2)", x.skew(2), NONE);
        check.same("skew(-1)", x.skew(-1), NONE);
        LaneWarps first = Check.with(SPLIT);
        check.same("the first", first.skew(0), 0);
        check.same("CYCLES", first.skew(1), 7);
        first.set(1, 0, 3);
        check.same("by MODE as it is", first.skew(1), 8);
        LaneWarps never = Check.with(FOREVER);
        check.same("by none", never.skew(0), NONE);
        check.same("by none", never.skew(1), NONE);
        check.same("within 400", Check.with("warps 1;set b 1;x:add a a 1;go x if a<199;end;").skew(1), 400);
        check.same("within 400", Check.with("warps 1;set b 1;yield;x:add a a 1;go x if a<199;end;").skew(1), NONE);
        // The BANKS of 0, 5, 10, 15 are 0, 1, 2, 3 by SKEW 0; 0, 2, 0, 2 by 1; 0, 3, 2, 1 by 2; 0 alone by 3.
        LaneWarps other = Check.with("warps 1;lane a;rem a a 4;mul a a 5;get b a;end;");
        check.same("SKEW", other.skew(0), 0);
        check.same("CYCLES", other.skew(1), 5);
        other.set(0, 0, 3);
        check.same("by 3 all are in one BANK", other.goes(1), 8);
        other.set(0, 0, 1);
        check.same("by 1 they are in two", other.goes(1), 6);
        other.set(0, 0, 2);
        check.same("by 2 each is in its own", other.goes(1), 5);
    }

    private void alone19() {
        check.about("19 alone");
        LaneWarps x = Check.with("warps 2;word 9 4;lane a;warp b;load c 9;bar;add d c 1;store 9 d;go y if a=7;x:yield;go x if a=5;y:end;");
        x.poke(false, 9, 8);
        x.cycles(50);
        for (int w = 0; w < 2; w++) {
            check.same("a", x.alone(w, 6, 0), 6);
            check.same("b", x.alone(w, 6, 1), w);
            check.same("c", x.alone(w, 6, 2), 4);
            check.same("d", x.alone(w, 6, 3), 5);
            check.same("CYCLES", x.alone(w, 6, 4), 14);
            check.same("CYCLES", x.alone(w, 7, 4), 12);
            check.same("it does not END", x.alone(w, 5, 4), NOTHING);
            check.same("it does not END", x.alone(w, 5, 0), NOTHING);
        }
        check.same("alone(2, 0, 0)", x.alone(2, 0, 0), NOTHING);
        check.same("alone(-1, 0, 0)", x.alone(-1, 0, 0), NOTHING);
        check.same("alone(0, 8, 0)", x.alone(0, 8, 0), NOTHING);
        check.same("alone(0, -1, 0)", x.alone(0, -1, 0), NOTHING);
        check.same("alone(0, 0, 5)", x.alone(0, 0, 5), NOTHING);
        check.same("alone(0, 0, -1)", x.alone(0, 0, -1), NOTHING);
        x.set(1, 1, 2);
        check.same("by fair", x.alone(1, 6, 4), 14);
        check.same("by fair", x.alone(1, 6, 3), 5);
        check.same("within 400", Check.with("warps 1;set b 1;x:add a a 1;go x if a<199;end;").alone(0, 0, 4), 400);
        check.same("within 400", Check.with("warps 1;set b 1;yield;x:add a a 1;go x if a<199;end;").alone(0, 0, 4), NOTHING);
        Check.tell(x, "warps 1;set a 3;end;");
        check.same("of another program", x.alone(0, 6, 0), 3);
        check.same("of another program", x.alone(1, 6, 0), NOTHING);
    }

    private void agrees20() {
        check.about("20 agrees");
        LaneWarps x = Check.with(SPLIT);
        check.same("none has ENDED", x.agrees(), 0);
        x.cycles(6);
        check.same("none has ENDED", x.agrees(), 0);
        x.cycles(1);
        check.same("all", x.agrees(), 8);
        // Each LANE takes what the one ahead of it has put there; only LANE 0 is as it would be ALONE.
        LaneWarps swaps = Check.with("warps 2;lane a;add a a 1;swap a 0;end;");
        swaps.cycles(60);
        check.same("all have ENDED", swaps.has(4), 0);
        check.same("LANE 0 of WARP 0", swaps.agrees(), 1);
        LaneWarps poked = Check.with("warps 1;load a 3;lane b;go x if b<2;load a 4;x:end;");
        poked.poke(false, 4, 1);
        poked.cycles(60);
        check.same("two did not ask it", poked.agrees(), 2);
        LaneWarps never = Check.with("warps 1;lane a;put 1 1;x:get b 2;go x if b=0;end;");
        never.poke(true, 2, 1);
        never.cycles(60);
        check.same("all have ENDED", never.has(4), 0);
        check.same("ALONE they don't END", never.agrees(), 0);
    }

    private void likely21() {
        check.about("21 likely");
        LaneWarps x = Check.with(COUNT);
        check.same("CYCLES of 5", x.likely(0, 14, NONE), 1);
        check.same("CYCLES of 5", x.likely(0, 14, 0), 5);
        check.same("CYCLES of 5", x.likely(0, 14, 1), NONE);
        check.same("CYCLES of 0, 1", x.likely(0, 6, NONE), 2);
        check.same("CYCLES of 0, 1", x.likely(0, 6, 0), 0);
        check.same("CYCLES of 0, 1", x.likely(0, 6, 1), 1);
        check.same("CYCLES of 15", x.likely(0, 34, 0), 15);
        check.same("CYCLES of none", x.likely(0, 36, NONE), 0);
        check.same("CYCLES of none", x.likely(0, 36, 0), NONE);
        check.same("0 CYCLES", x.likely(0, 0, NONE), 0);
        check.same("400 CYCLES", x.likely(0, 400, NONE), 0);
        check.same("another word", x.likely(63, 6, NONE), 16);
        check.same("another word", x.likely(63, 6, 15), 15);
        check.same("another word", x.likely(63, 6, 16), NONE);
        check.same("word 64", x.likely(64, 6, NONE), NONE);
        check.same("word -1", x.likely(-1, 6, NONE), NONE);
        check.same("401 CYCLES", x.likely(0, 401, NONE), NONE);
        check.same("-1 CYCLES", x.likely(0, -1, NONE), NONE);
        check.same("k -2", x.likely(0, 6, -2), NONE);
        x.set(1, 0, 0);
        check.same("by fair", x.likely(0, 14, 0), 5);
        LaneWarps far = Check.with("warps 1;word 0 3;word 1 9;load a 0;load b 1;x:sub a a b;go x if a>0;end;");
        check.same("other words as told", far.likely(0, 11, NONE), 6);
        check.same("other words as told", far.likely(0, 11, 0), 10);
        far.poke(false, 1, 1);
        check.same("at BEGIN", far.likely(0, 11, 0), 10);
        check.same("word 1", far.likely(1, 13, 0), 1);
        check.same("word 1 at 0: not within 400", far.likely(1, 9, 0), 3);
        // The word is stored ahead of being loaded, so no value of it matters.
        LaneWarps stored = Check.with("warps 1;store 2 3;load a 2;x:sub a a 1;go x if a>0;end;");
        check.same("stored", stored.likely(2, 13, NONE), 16);
        // By stack those that stay come to x ahead of all; by fair it is LANE 3's turn behind the first go, and with
        // 4 .. 7 it is at x by then and ENDS ahead of the others.
        LaneWarps split = Check.with("warps 1;lane a;load b 0;go x if a<b;go x if a<8;x:end;");
        check.same("by stack", split.likely(0, 6, 0), 8);
        check.same("by stack", split.likely(0, 7, NONE), 8);
        split.set(1, 0, 0);
        check.same("by fair", split.likely(0, 7, NONE), 4);
        check.same("by fair", split.likely(0, 8, NONE), 4);
        check.same("by fair", split.likely(0, 8, 0), 4);
        split.undo();
        check.same("by stack", split.likely(0, 7, NONE), 8);
        // WARP 0 has more LINES, WARP 1 waits longer: by age it begins late
        LaneWarps turns = Check.with("warps 2;warp a;go x if a=1;set b 1;set b 1;set b 1;set b 1;end;x:load b 0;end;");
        check.same("by age", turns.likely(0, 13, NONE), 16);
        turns.set(0, 1, 0);
        check.same("by turns", turns.likely(0, 13, NONE), 0);
        check.same("by turns", turns.likely(0, 11, NONE), 16);
        LaneWarps banks = Check.with("warps 1;lane a;mul a a 4;get b a;load c 0;end;");
        check.same("by SKEW 0", banks.likely(0, 14, NONE), 16);
        banks.set(0, 0, 1);
        check.same("by SKEW 1", banks.likely(0, 8, NONE), 16);
        banks.set(0, 0, 2);
        check.same("by SKEW 2", banks.likely(0, 10, NONE), 16);
    }

    private void tells22() {
        check.about("22 tells");
        LaneWarps x = Check.with(COUNT);
        check.same("the word", x.tells(0), 0);
        check.same("unlike", x.tells(1), 15);
        check.same("tells(2)", x.tells(2), NONE);
        check.same("tells(-1)", x.tells(-1), NONE);
        LaneWarps seven = Check.with("warps 1;load a 7;x:sub a a 1;go x if a>0;load b 3;go y if b<5;set c 1;y:end;");
        check.same("the word", seven.tells(0), 7);
        check.same("unlike", seven.tells(1), 15);
        LaneWarps eight = Check.with("warps 1;load a 8;x:sub a a 1;go x if a>0;load b 3;go y if b<5;set c 1;y:end;");
        check.same("words 0 .. 7 alone", eight.tells(0), 3);
        check.same("unlike", eight.tells(1), 2);
        LaneWarps like = Check.with("warps 1;load a 5;go x if a=0;yield;x:load a 2;go y if a=0;yield;y:end;");
        check.same("of like ones the first", like.tells(0), 2);
        check.same("unlike", like.tells(1), 2);
        LaneWarps none = Check.with(FOREVER);
        check.same("none matters", none.tells(0), 0);
        check.same("not within 400 is one", none.tells(1), 1);
        LaneWarps ends = Check.with("warps 1;load a 6;x:go x if a=3;end;");
        check.same("not within 400 is one, too", ends.tells(0), 6);
        check.same("unlike", ends.tells(1), 2);
        LaneWarps modes = Check.with("warps 1;lane a;load b 0;go x if a<b;go x if a<8;x:end;");
        check.same("by stack", modes.tells(1), 2);
        modes.set(1, 0, 0);
        check.same("by fair", modes.tells(1), 3);
    }

    private void cycles23() {
        check.about("23 cycles");
        LaneWarps x = Check.with("warps 1;load a 0;x:go x;");
        check.same("cycles(3)", x.cycles(3), 1);
        check.same("cycles(400)", x.cycles(400), 400);
        check.same("CYCLE", x.has(2), 403);
        check.same("cycles(401)", x.cycles(401), NONE);
        check.same("cycles(0)", x.cycles(0), NONE);
        check.same("cycles(-1)", x.cycles(-1), NONE);
        for (int k = 0; k < 23; k++) {
            x.cycles(400);
        }
        check.same("CYCLE", x.has(2), 9603);
        check.same("beyond 9999", x.cycles(397), NONE);
        check.same("CYCLE", x.has(2), 9603);
        check.same("up to 9999", x.cycles(396), 396);
        check.same("CYCLE", x.has(2), 9999);
        check.same("beyond 9999", x.cycles(1), NONE);
        check.same("status(2)", x.status(2), 5);
    }

    private void poke24() {
        check.about("24 poke");
        LaneWarps x = Check.with("warps 1;word 3 4;load a 3;get b 4;end;");
        check.same("far", x.poke(false, 3, -9999), 4);
        check.same("far", x.poke(false, 3, 9999), -9999);
        check.same("near", x.poke(true, 4, 6), 0);
        check.same("far 63", x.poke(false, 63, 1), 0);
        check.same("near 31", x.poke(true, 31, 1), 0);
        check.same("ACTS", x.has(8), 5);
        x.cycles(9);
        check.same("loaded", x.lane(0, 2, 0), 9999);
        check.same("got", x.lane(0, 2, 1), 6);
        check.same("not RACED", x.has(6), 0);
        check.same("far 64", x.poke(false, 64, 1), NOTHING);
        check.same("far -1", x.poke(false, -1, 1), NOTHING);
        check.same("near 32", x.poke(true, 32, 1), NOTHING);
        check.same("10000", x.poke(false, 0, 10000), NOTHING);
        check.same("-10000", x.poke(false, 0, -10000), NOTHING);
        check.same("word", x.word(false, 0), 0);
        check.same("status(3)", x.status(3), 5);
        check.same("ACTS", x.has(8), 6);
        x.begin();
        check.same("at BEGIN as told", x.word(false, 3), 4);
        check.same("at BEGIN 0", x.word(true, 4), 0);
    }

    private void set25() {
        check.about("25 set");
        LaneWarps x = Check.with(SPLIT);
        x.cycles(3);
        check.same("set", x.set(1, 1, 3), true);
        check.same("MODE", x.has(10), 1);
        check.same("ORDER", x.has(11), 1);
        check.same("SKEW", x.has(12), 3);
        check.same("BEGIN", x.has(2), 0);
        check.same("BEGIN", x.lane(0, 5, 0), 0);
        check.same("goes", x.goes(1), 8);
        check.same("set(2, 0, 0)", x.set(2, 0, 0), false);
        check.same("set(-1, 0, 0)", x.set(-1, 0, 0), false);
        check.same("set(0, 2, 0)", x.set(0, 2, 0), false);
        check.same("set(0, -1, 0)", x.set(0, -1, 0), false);
        check.same("set(0, 0, 4)", x.set(0, 0, 4), false);
        check.same("set(0, 0, -1)", x.set(0, 0, -1), false);
        check.same("status(3)", x.status(3), 6);
        check.same("MODE", x.has(10), 1);
        check.same("like ones", x.set(1, 1, 3), true);
        check.same("ACTS", x.has(8), 3);
        x.undo();
        x.undo();
        check.same("MODE", x.has(10), 0);
        check.same("ORDER", x.has(11), 0);
        check.same("SKEW", x.has(12), 0);
        check.same("CYCLE", x.has(2), 3);
    }

    private void begin26() {
        check.about("26 begin");
        LaneWarps x = Check.with("warps 2;word 5 6;lane a;store 5 a;put 3 a;bar;end;");
        x.set(1, 1, 2);
        x.cycles(30);
        x.poke(true, 9, 9);
        check.same("begin", x.begin(), true);
        check.same("CYCLE", x.has(2), 0);
        check.same("LINES done", x.has(3), 0);
        check.same("LIVE", x.has(4), 16);
        check.same("WAIT", x.has(5), 0);
        check.same("RACED", x.has(6), 0);
        check.same("KEPT", x.has(7), 0);
        check.same("ACTS", x.has(8), 4);
        check.same("EPOCHS", x.has(9), 0);
        check.same("MODE stays", x.has(10), 1);
        check.same("ORDER stays", x.has(11), 1);
        check.same("SKEW stays", x.has(12), 2);
        check.same("went last", x.has(13), 0);
        check.same("far", x.word(false, 5), 6);
        check.same("near", x.word(true, 3), 0);
        check.same("near", x.word(true, 9), 0);
        check.same("a", x.lane(1, 7, 0), 0);
        check.same("LINE", x.lane(1, 7, 6), 0);
        check.same("READY", x.warp(1, 1), 0);
        check.same("TURN", x.warp(1, 3), 0);
        check.same("LINES", x.warp(1, 4), 0);
        check.same("0 first", x.next(0), 0);
        for (int mode = 0; mode < 2; mode++) {
            x.set(mode, 0, 0);
            x.cycles(7);
            check.same("WAIT", x.has(5), 8);
            x.begin();
            check.same("WAIT", x.has(5), 0);
            check.same("GO", x.warp(0, 5), 1);
        }
        LaneWarps touched = Check.with("warps 1;load a 0;lane b;go x if a=b;load c 5;end;x:store 4 1;store 5 1;end;");
        touched.cycles(30);
        check.same("RACED", touched.raced(false, 4), 0);
        check.same("RACED", touched.raced(false, 5), 1);
        touched.begin();
        touched.poke(false, 0, 1);
        touched.cycles(30);
        check.same("touched ahead of BEGIN", touched.raced(false, 4), 0);
        touched.begin();
        touched.poke(false, 0, 9);
        touched.cycles(30);
        check.same("written ahead of BEGIN", touched.raced(false, 5), 0);
    }

    private void chance27() {
        check.about("27 chance");
        LaneWarps x = Check.with(FOREVER);
        check.same("chance(1)", x.chance(1), 3);
        check.same("word 58", x.word(false, 58), 3);
        check.same("CYCLE", x.has(2), 3);
        check.same("chance(20)", x.chance(20), x.has(2) - 3);
        check.same("ACTS", x.has(8), 2);
        LaneWarps y = Check.with(FOREVER);
        for (int k = 0; k < 21; k++) {
            y.chance(1);
        }
        check.same("the seed goes on", y.has(2), x.has(2));
        for (int k = 0; k < 64; k++) {
            check.same("the seed goes on", y.word(false, k), x.word(false, k));
        }
        check.same("chance(0)", x.chance(0), NONE);
        check.same("chance(21)", x.chance(21), NONE);
        check.same("status(2)", x.status(2), 2);
        x.begin();
        for (int k = 0; k < 24; k++) {
            x.cycles(400);
        }
        x.cycles(396);
        x.seed(1);
        check.same("none beyond 9999", x.chance(2), 3);
        check.same("none beyond 9999", x.has(2), 9999);
        check.same("word 58", x.word(false, 58), 3);
        x.seed(1);
        x.poke(false, 58, 9);
        check.same("at 9999", x.chance(1), 0);
        check.same("word 58", x.word(false, 58), 3);
    }

    private void undo28() {
        check.about("28 undo");
        LaneWarps x = Check.with("warps 1;lane a;store a a;put 1 a;bar;lane b;x:add c c 1;go x;");
        x.cycles(3);
        x.cycles(7);
        x.poke(false, 0, 44);
        x.set(1, 1, 1);
        x.chance(3);
        x.begin();
        check.same("ACTS", x.has(8), 6);
        x.undo();
        check.same("chance", x.has(2) > 2, true);
        x.undo();
        check.same("set", x.has(2), 0);
        check.same("set", x.has(10), 1);
        x.undo();
        check.same("poke", x.word(false, 0), 44);
        check.same("poke", x.has(10), 0);
        check.same("poke", x.has(2), 10);
        check.same("poke", x.has(9), 1);
        x.undo();
        check.same("cycles", x.word(false, 0), 0);
        x.undo();
        check.same("cycles", x.has(2), 3);
        check.same("cycles", x.has(9), 0);
        check.same("cycles", x.has(6), 0);
        check.same("cycles", x.has(7), 2);
        check.same("cycles", x.warp(0, 1), 4);
        x.undo();
        check.same("at first", x.has(2), 0);
        check.same("no more", x.undo(), false);
        check.same("status(4)", x.status(4), 1);
        for (int k = 0; k < 25; k++) {
            x.cycles(1);
        }
        check.same("20 at most", x.has(8), 20);
        for (int k = 0; k < 20; k++) {
            check.same("undo", x.undo(), true);
        }
        check.same("the last 20", x.has(2), 5);
        check.same("no more", x.undo(), false);
        x.cycles(400);
        check.same("refused ones are no ACTS", x.cycles(401), NONE);
        check.same("ACTS", x.has(8), 1);
        x.seed(5);
        check.same("a seed is no ACT", x.has(8), 1);
        x.chance(1);
        x.undo();
        x.chance(1);
        LaneWarps y = Check.with(FOREVER);
        y.seed(5);
        y.chance(1);
        y.begin();
        y.chance(1);
        for (int k = 8; k < 64; k++) {
            check.same("the seed stays", x.word(false, k), y.word(false, k));
        }
        raceUndone();
    }

    private void raceUndone() {
        LaneWarps x = Check.with("warps 2;lane a;warp b;mul b b 8;add a a b;store a 1;store 40 1;end;");
        x.cycles(6);
        x.poke(false, 0, 1);
        x.cycles(60);
        check.same("RACED", x.has(6), 1);
        x.undo();
        check.same("RACED undone", x.has(6), 0);
        x.cycles(60);
        check.same("RACED once more", x.has(6), 1);
        LaneWarps touched = Check.with("warps 1;load a 0;lane b;go x if a=b;load c 5;end;x:store 4 1;store 5 1;end;");
        touched.cycles(30);
        touched.undo();
        touched.poke(false, 0, 1);
        touched.cycles(30);
        check.same("touched behind what is undone", touched.raced(false, 4), 0);
        touched.undo();
        touched.poke(false, 0, 9);
        touched.cycles(30);
        check.same("written behind what is undone", touched.raced(false, 5), 0);
        LaneWarps kept = Check.with(FOREVER);
        kept.cycles(30);
        kept.cycles(10);
        check.same("KEPT", kept.kept(0, 0), 10);
        kept.undo();
        check.same("KEPT undone", kept.kept(0, 0), 0);
        check.same("KEPT undone", kept.kept(29, 0), 29);
        check.same("LINES of the WARP undone", kept.warp(0, 4), 30);
        check.same("LINES undone", kept.has(3), 30);
    }

    private void seed29() {
        check.about("29 seed");
        LaneWarps x = Check.with(FOREVER);
        check.same("seed(-1)", x.seed(-1), false);
        check.same("seed(MIN)", x.seed(Integer.MIN_VALUE), false);
        check.same("status(5)", x.status(5), 2);
        x.chance(1);
        check.same("it is 1 at first", x.word(false, 58), 3);
        check.same("seed(0)", x.seed(0), true);
        x.begin();
        // 12345 / 64 mod 64 = 0; then 1406932606 / 64 mod 16 = 9; then 654583775 / 64 mod 8 + 1 = 8
        check.same("chance", x.chance(1), 8);
        check.same("word 0", x.word(false, 0), 9);
        check.same("seed(MAX)", x.seed(Integer.MAX_VALUE), true);
        x.begin();
        check.same("chance", x.chance(1), drawn(Integer.MAX_VALUE, 3, 8) + 1);
        check.same("word", x.word(false, drawn(Integer.MAX_VALUE, 1, 64)), drawn(Integer.MAX_VALUE, 2, 16));
    }

    private static int drawn(long seed, int times, int m) {
        java.math.BigInteger x = java.math.BigInteger.valueOf(seed);
        for (int k = 0; k < times; k++) {
            x = x.multiply(java.math.BigInteger.valueOf(1103515245)).add(java.math.BigInteger.valueOf(12345))
                    .mod(java.math.BigInteger.TWO.pow(31));
        }
        return (int) (x.longValue() / 64 % m);
    }

    private void status30() {
        check.about("30 status");
        LaneWarps x = new LaneWarps();
        for (int what = 0; what < 6; what++) {
            check.same("status(" + what + ")", x.status(what), 0);
        }
        x.end(5);
        x.program();
        x.cycles(1);
        x.chance(1);
        x.poke(false, 0, 0);
        x.set(0, 0, 0);
        x.begin();
        x.undo();
        x.seed(-5);
        int[] due = {1, 1, 2, 3, 1, 1};
        for (int what = 0; what < 6; what++) {
            check.same("status(" + what + ")", x.status(what), due[what]);
        }
        check.same("status(6)", x.status(6), NONE);
        check.same("status(-1)", x.status(-1), NONE);
        Check.tell(x, FOREVER);
        x.begin();
        check.same("they stay", x.status(3), 3);
    }
}
