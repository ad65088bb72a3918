import java.io.IOException;

/** Promises 1 to 13 and 23 to 30: the edges of what each call takes and answers, and what a refused one leaves as it is. */
public final class CallEdgesTest extends Edges {
    public static void main(String[] args) throws IOException, ReflectiveOperationException {
        new CallEdgesTest().runAll();
    }

    /** Feeds blanks, twenty at a time. */
    private static int feedBlanks(LaneWarps x, int times) {
        int count = 0;
        for (int k = 0; k < times; k++) {
            count = x.feed(0x20202020, 0x20202020, 0x20202020, 0x20202020, 0x20202020);
        }
        return count;
    }

    // What it is

    @Holds(at = "What it is", says = "An object is used for at most 512 calls after it has been made;")
    void the512thCallStillHolds() {
        LaneWarps x = new LaneWarps();
        int[] n = Check.numbers(FOREVER + "     ", 0);
        x.feed(n[0], n[1], n[2], n[3], n[4]);
        x.program();
        for (int call = 3; call <= 511; call++) {
            same("cycles(1)", x.cycles(1), 1);
        }
        same("has(2)", x.has(2), 509);
    }

    @Holds(at = "Constants", says = "`NONE = -1`: There is none; it is refused. `NOTHING = -1000000`: There is no such number.")
    void theConstants() {
        same("NONE", LaneWarps.NONE, -1);
        same("NOTHING", LaneWarps.NOTHING, -1000000);
    }

    // Promise 1

    @Holds(at = "Promise 1", says = "No program.")
    void aNewObjectHasNoProgram() {
        LaneWarps x = new LaneWarps();
        for (int what = 0; what < 14; what++) {
            same("has(" + what + ")", x.has(what), 0);
        }
        same("end(0)", x.end(0), true);
        same("end(1)", x.end(1), false);
        same("undo()", x.undo(), false);
        same("fault(0)", x.fault(0), 0);
        same("program()", x.program(), NONE);
    }

    // Promise 2

    @Holds(at = "Promise 2", says = "Twenty bytes come behind those on the tape,")
    void feedComesBehind() {
        LaneWarps x = new LaneWarps();
        same("feed", feedBlanks(x, 1), 20);
        same("feed", feedBlanks(x, 1), 40);
        x.end(7);
        same("feed", feedBlanks(x, 1), 27);
        x.end(0);
        same("feed", feedBlanks(x, 1), 20);
    }

    @Holds(at = "Promise 2", says = "of each number the highest first:")
    void feedTheHighestByteFirst() {
        LaneWarps x = new LaneWarps();
        // "warps 1;set a 12;end": four bytes a number
        x.feed(0x77617270, 0x7320313b, 0x73657420, 0x61203132, 0x3b656e64);
        x.end(17);
        same("program()", x.program(), 1);
        same("line(0, 2)", x.line(0, 2), 12);
    }

    @Holds(at = "Promise 2", says = "of each number the highest first:")
    void feedBytesAbove127() {
        // each of the twenty bytes is 255, or 128, once, in a text of blanks
        for (int place = 0; place < 20; place++) {
            for (int sign : new int[] {128, 255}) {
                LaneWarps x = new LaneWarps();
                int[] n = {0x20202020, 0x20202020, 0x20202020, 0x20202020, 0x20202020};
                int shift = 24 - place % 4 * 8;
                n[place / 4] = n[place / 4] & ~(255 << shift) | sign << shift;
                x.feed(n[0], n[1], n[2], n[3], n[4]);
                same("program()", x.program(), NONE);
                same("fault(0)", x.fault(0), 1);
                same("fault(1)", x.fault(1), place);
            }
        }
    }

    @Holds(at = "Promise 2", says = "NONE, refused (0), if there would be more than 1600.")
    void feedUpTo1600() {
        LaneWarps x = new LaneWarps();
        same("feed", feedBlanks(x, 79), 1580);
        same("feed", feedBlanks(x, 1), 1600);
        same("feed", feedBlanks(x, 1), NONE);
        same("feed", feedBlanks(x, 1), NONE);
        same("status(0)", x.status(0), 2);
        same("end(1601)", x.end(1601), false);
        same("end(1581)", x.end(1581), true);
        same("feed", feedBlanks(x, 1), NONE);
        same("end(1580)", x.end(1580), true);
        same("feed", feedBlanks(x, 1), 1600);
        same("status(0)", x.status(0), 4);
    }

    @Holds(at = "Promise 2", says = "NONE, refused (0), if there would be more than 1600.")
    void aRefusedFeedLeavesTheTape() {
        LaneWarps x = new LaneWarps();
        Check.lay(x, "warps 1;end;" + " ".repeat(1588));
        same("feed", x.feed(0x21212121, 0, 0, 0, 0), NONE);
        same("end(1600)", x.end(1600), true);
        same("program()", x.program(), 1);
    }

    @Holds(at = "Promise 2", says = "if there would be more than 1600.")
    void aTextOf1600Bytes() {
        fine("warps 1;" + " ".repeat(1588) + "end;", 1);
        wrong("warps 1;" + " ".repeat(1589) + "end", 1, 1600);
        wrong("warps 1;end;" + " ".repeat(1587) + "!", 1, 1599);
    }

    // Promise 3

    @Holds(at = "Promise 3", says = "The tape has its first n bytes alone: true;")
    void endKeepsTheFirstBytes() {
        LaneWarps x = new LaneWarps();
        Check.lay(x, "warps 1;end;set a 1;");
        same("end(20)", x.end(20), true);
        same("end(12)", x.end(12), true);
        same("program()", x.program(), 1);
        LaneWarps y = new LaneWarps();
        Check.lay(y, "warps 1;end;set a 1;");
        same("end(0)", y.end(0), true);
        same("end(0)", y.end(0), true);
        same("program()", y.program(), NONE);
        same("fault(1)", y.fault(1), 0);
    }

    @Holds(at = "Promise 3", says = "false, refused (0), if it has not so many,")
    void endBeyondTheTape() {
        LaneWarps x = new LaneWarps();
        for (int n : new int[] {1, 20, 1600, GREATEST}) {
            same("end(" + n + ")", x.end(n), false);
        }
        feedBlanks(x, 1);
        same("end(21)", x.end(21), false);
        same("end(20)", x.end(20), true);
        same("end(19)", x.end(19), true);
        same("end(20)", x.end(20), false);
        same("status(0)", x.status(0), 6);
        same("feed", feedBlanks(x, 1), 39);
    }

    @Holds(at = "Promise 3", says = "or n is below 0.")
    void endBelow0() {
        LaneWarps x = new LaneWarps();
        feedBlanks(x, 1);
        for (int n : new int[] {LEAST, -1}) {
            same("end(" + n + ")", x.end(n), false);
        }
        same("status(0)", x.status(0), 2);
        same("end(20)", x.end(20), true);
    }

    // Promise 4

    @Holds(at = "Promise 4", says = "The tape (it goes) is THE PROGRAM: how many LINES;")
    void theTapeGoes() {
        LaneWarps x = new LaneWarps();
        same("program()", Check.tell(x, "warps 1;" + "end;".repeat(40)), 40);
        same("end(1)", x.end(1), false);
        same("program()", x.program(), NONE);
        same("end(1)", x.end(1), false);
        same("feed", feedBlanks(x, 1), 20);
        same("program()", x.program(), NONE);
        same("feed", feedBlanks(x, 1), 20);
    }

    @Holds(at = "Promise 4", says = "NONE, refused (1), with a FAULT (all stays;")
    void withAFaultAllStays() {
        LaneWarps x = behind(3, "warps 2;word 7 5;mode fair;order turns;lane a;put a a;store a 1;bar;end;");
        x.poke(true, 7, 9);
        String before = look(x);
        int goes = x.goes(1);
        for (String text : new String[] {"", " ", "warps 5;end;", "warps 1;x:end;x:end;", "warps 1;word 7 6;set a 1;go y;", "warps 1;" + "end;".repeat(41)}) {
            same("program() of " + text, Check.tell(x, text), NONE);
            same("all stays", look(x).equals(before), true);
            same("goes(1)", x.goes(1), goes);
        }
        same("status(1)", x.status(1), 6);
        same("undo()", x.undo(), true);
        same("word(true, 7)", x.word(true, 7), 7);
    }

    @Holds(at = "Promise 4", says = "one without a STATEMENT has FAULT 1 at its length)")
    void aTapeWithoutAStatement() {
        wrong("", 1, 0);
        wrong(" ", 1, 1);
        wrong("\n\n \n", 1, 4);
        wrong(" ".repeat(1600), 1, 1600);
    }

    @Holds(at = "Promise 4", says = "Without one it is at BEGIN, SKEW is 0, nothing can be undone;")
    void withoutAFaultItIsAtBegin() {
        LaneWarps x = behind(9, "warps 4;word 9 9;mode fair;order turns;put 3 1;store 3 1;bar;end;");
        x.set(1, 0, 3);
        x.cycles(9);
        same("has(8)", x.has(8), 3);
        same("program()", Check.tell(x, "warps 1;end;"), 1);
        int[] due = {1, 1, 0, 0, 8, 0, 0, 0, 0, 0, 0, 0, 0, 0};
        for (int what = 0; what < due.length; what++) {
            same("has(" + what + ")", x.has(what), due[what]);
        }
        same("undo()", x.undo(), false);
        same("word(false, 9)", x.word(false, 9), 0);
        same("word(true, 3)", x.word(true, 3), 0);
        same("raced(false, 3)", x.raced(false, 3), 0);
        same("kept(0, 0)", x.kept(0, 0), NONE);
        same("warp(1, 0)", x.warp(1, 0), NONE);
        stack(x, 0, 1, 255);
    }

    @Holds(at = "Promise 4", says = "The tape (it goes) is THE PROGRAM:")
    void nothingOfTheProgramAheadIsLeft() {
        LaneWarps x = new LaneWarps();
        for (int k = 0; k < 3; k++) {
            Check.tell(x, "warps 4;word 1 6;mode fair;order turns;x:set a 1;go x if a<1;load b 1;end;");
            x.cycles(5);
            for (int again = 0; again < 2; again++) {
                same("program()", Check.tell(x, "warps 1;x:end;"), 1);
                int[] due = {1, 1, 0, 0, 8, 0, 0, 0, 0, 0, 0, 0, 0, 0};
                for (int what = 0; what < due.length; what++) {
                    same("has(" + what + ")", x.has(what), due[what]);
                }
                same("word(false, 1)", x.word(false, 1), 0);
                for (int what = 1; what < 7; what++) {
                    same("line(0, " + what + ")", x.line(0, what), NOTHING);
                }
            }
        }
    }

    @Holds(at = "Promise 4", says = "Without one it is at BEGIN,")
    void whatWasAskedOfTheProgramAheadIsNotAnsweredAgain() {
        LaneWarps x = new LaneWarps();
        for (int k = 1; k < 4; k++) {
            Check.tell(x, "warps 1;load a " + k + ";x:sub a a 1;go x if a>0;set a " + k + ";" + "yield;".repeat(k) + "end;");
            same("goes(1)", x.goes(1), 7 + k);
            for (int by = 0; by < 4; by++) {
                same("by(" + by / 2 + ", " + by % 2 + ", 1)", x.by(by / 2, by % 2, 1), 7 + k);
            }
            same("skew(1)", x.skew(1), 7 + k);
            same("alone(0, 3, 0)", x.alone(0, 3, 0), k);
            same("alone(0, 3, 4)", x.alone(0, 3, 4), 7 + k);
            same("likely(0, ..)", x.likely(0, 7 + k, NONE), 16);
            same("likely(k, ..)", x.likely(k, 7 + k, NONE), 2);
            same("tells(0)", x.tells(0), k);
            x.cycles(20);
            same("agrees()", x.agrees(), 8);
        }
    }

    @Holds(at = "Promise 4", says = "the seed stays.")
    void theSeedStays() {
        LaneWarps x = with(FOREVER);
        x.seed(7);
        x.chance(1);
        LaneWarps y = with(FOREVER);
        y.seed(7);
        y.chance(1);
        Check.tell(x, FOREVER);
        Check.tell(x, "!");
        y.begin();
        same("chance(3)", x.chance(3), y.chance(3));
        for (int k = 0; k < 64; k++) {
            same("word(false, " + k + ")", x.word(false, k), y.word(false, k));
        }
    }

    // Promise 5

    @Holds(at = "Promise 5", says = "its FAULT (what 0; 0 without, and ahead of any), its place (1; NONE without).")
    void faultWithoutAndAheadOfAny() {
        LaneWarps x = new LaneWarps();
        same("fault(0)", x.fault(0), 0);
        same("fault(1)", x.fault(1), NONE);
        Check.tell(x, FOREVER);
        same("fault(0)", x.fault(0), 0);
        same("fault(1)", x.fault(1), NONE);
    }

    @Holds(at = "Promise 5", says = "Of the latest program():")
    void faultOfTheLatest() {
        LaneWarps x = new LaneWarps();
        Check.tell(x, "warps 9;");
        same("fault(0)", x.fault(0), 2);
        same("fault(1)", x.fault(1), 6);
        feedBlanks(x, 1);
        same("fault(1)", x.fault(1), 6);
        x.program();
        same("fault(0)", x.fault(0), 1);
        same("fault(1)", x.fault(1), 20);
        Check.tell(x, FOREVER);
        same("fault(0)", x.fault(0), 0);
        same("fault(1)", x.fault(1), NONE);
        Check.tell(x, "warps 1;x:end;x:end;");
        same("fault(0)", x.fault(0), 3);
        same("fault(1)", x.fault(1), 14);
    }

    @Holds(at = "Promise 5", says = "NONE for another what.")
    void faultOfAnotherWhat() {
        LaneWarps x = new LaneWarps();
        for (int again = 0; again < 2; again++) {
            for (int what : new int[] {LEAST, -1, 2, GREATEST}) {
                same("fault(" + what + ")", x.fault(what), NONE);
            }
            Check.tell(x, "!");
        }
    }

    // Promise 6

    @Holds(at = "Promise 6", says = "How many there are: 0 LINES, 1 WARPS, 2 the CYCLE, 3 LINES done since BEGIN,")
    void hasSinceBegin() {
        LaneWarps x = behind(400, "warps 4;load a 0;end;");
        int[] due = {2, 4, 400, 8};
        for (int what = 0; what < 4; what++) {
            same("has(" + what + ")", x.has(what), due[what]);
        }
        x.begin();
        same("has(2)", x.has(2), 0);
        same("has(3)", x.has(3), 0);
        LaneWarps most = with("warps 4;" + "end;".repeat(40));
        same("has(0)", most.has(0), 40);
        same("has(1)", most.has(1), 4);
    }

    @Holds(at = "Promise 6", says = "9 EPOCHS begun since BEGIN, 10 MODE (0 stack, 1 fair), 11 ORDER (0 age, 1 turns), 12 SKEW,")
    void hasEpochsAndLaying() {
        LaneWarps x = with("warps 1;x:bar;go x;");
        x.set(1, 1, 3);
        for (int k = 0; k < 5; k++) {
            same("has(9)", x.has(9), k);
            x.cycles(2);
        }
        int[] due = {5, 1, 1, 3};
        for (int k = 0; k < 4; k++) {
            same("has(" + (9 + k) + ")", x.has(9 + k), due[k]);
        }
        x.begin();
        same("has(9)", x.has(9), 0);
        same("has(10)", x.has(10), 1);
        same("has(11)", x.has(11), 1);
        same("has(12)", x.has(12), 3);
    }

    @Holds(at = "Promise 6", says = "Without a program 0 each.")
    void hasWithoutAProgram() {
        LaneWarps x = new LaneWarps();
        Check.tell(x, "warps 4;mode fair;order turns;end");
        for (int what = 0; what < 14; what++) {
            same("has(" + what + ")", x.has(what), 0);
        }
    }

    @Holds(at = "Promise 6", says = "NONE for others.")
    void hasOfOthers() {
        for (int what : new int[] {LEAST, -1, 14, GREATEST}) {
            same("has(" + what + ") without a program", new LaneWarps().has(what), NONE);
            same("has(" + what + ")", with(FOREVER).has(what), NONE);
        }
    }

    @Holds(at = "Promise 6", says = "7 told as KEPT, 8 ACTS that can be undone,")
    void hasNoMoreThanIsToldOrCanBeUndone() {
        LaneWarps x = with(FOREVER);
        for (int k = 0; k < 40; k++) {
            same("has(7)", x.has(7), Math.min(k, 30));
            same("has(8)", x.has(8), Math.min(k, 20));
            same("has(3)", x.has(3), k);
            x.cycles(1);
        }
    }

    @Holds(at = "Promise 6", says = "13 which WARP went last (0 ahead of any).")
    void hasWhichWentLast() {
        LaneWarps x = with("warps 3;order turns;end;");
        same("has(13)", x.has(13), 0);
        int[] due = {0, 1, 2, 2};
        for (int warp : due) {
            x.cycles(1);
            same("has(13)", x.has(13), warp);
        }
        x.begin();
        same("has(13)", x.has(13), 0);
    }

    @Holds(at = "Promise 6", says = "4 LANES that LIVE, 5 that WAIT, 6 RACED words,")
    void hasAllAndNone() {
        LaneWarps x = with("warps 4;lane a;put a a;mul b a 4;put b a;store 0 1;bar;end;");
        same("has(4)", x.has(4), 32);
        x.cycles(400);
        same("has(4)", x.has(4), 0);
        same("has(5)", x.has(5), 0);
        // near words 0 .. 7 and 8, 12 .. 28, far word 0
        same("has(6)", x.has(6), 8 + 6 + 1);
        LaneWarps all = behind(400, "warps 2;lane a;x:store a 1;put a 1;add a a 8;go x if a<64;end;");
        same("has(6)", all.has(6), 64 + 32);
    }

    // Promise 7

    @Holds(at = "Promise 7", says = "0 which (0 set, 1 add, 2 sub, 3 mul, 4 rem, 5 lane, 6 warp, 7 load, 8 store, 9 get, 10 put, 11 swap, 12 go, 13 bar, 14 yield, 15 end),")
    void lineKindsFrom0To15() {
        LaneWarps x = with("warps 1;set a 1;add a 1 2;sub a 1 2;mul a 1 2;rem a 1 2;lane a;warp a;load a 1;"
                + "store 1 2;get a 1;put 1 2;swap a 1;x:go x;bar;yield;end;");
        for (int line = 0; line < 16; line++) {
            same("line(" + line + ", 0)", x.line(line, 0), line);
        }
    }

    @Holds(at = "Promise 7", says = "NOTHING when there is none such, or for others.")
    void lineNothing() {
        LaneWarps x = with("warps 1;x:go x if a<1;" + "end;".repeat(38) + "bar;");
        for (int line : new int[] {LEAST, -1, 40, GREATEST}) {
            same("line(" + line + ", 0)", x.line(line, 0), NOTHING);
        }
        for (int what : new int[] {LEAST, -1, 7, GREATEST}) {
            same("line(0, " + what + ")", x.line(0, what), NOTHING);
        }
        same("line(39, 0)", x.line(39, 0), 13);
        same("line(0, 0) without a program", new LaneWarps().line(0, 0), NOTHING);
    }

    @Holds(at = "Promise 7", says = "1 R (0 .. 3), 2 the first X, 3 the second one (register k: -1 - k), 4 the LINE that go tells, 5 SIGN of its if (0 <, 1 =, 2 >), 6 MEET")
    void linePiecesThatAreNotThere() {
        String[] lines = {"set a 1;", "add a 1 2;", "sub a 1 2;", "mul a 1 2;", "rem a 1 2;", "lane a;", "warp a;", "load a 1;",
            "store 1 2;", "get a 1;", "put 1 2;", "swap a 1;", "x:go x;", "bar;", "yield;", "end;"};
        // bit k: there is what k
        int[] there = {7, 15, 15, 15, 15, 3, 3, 7, 13, 7, 13, 7, 17, 1, 1, 1};
        for (int op = 0; op < 16; op++) {
            LaneWarps x = with("warps 1;" + lines[op]);
            same("line(0, 0)", x.line(0, 0), op);
            for (int what = 0; what < 7; what++) {
                same(lines[op] + " line(0, " + what + ")", x.line(0, what) != NOTHING, (there[op] >> what & 1) != 0);
            }
        }
        LaneWarps x = with("warps 1;x:go x if a<1;");
        int[] due = {12, NOTHING, -1, 1, 0, 0, 1};
        for (int what = 0; what < 7; what++) {
            same("line(0, " + what + ")", x.line(0, what), due[what]);
        }
    }

    @Holds(at = "Promise 7", says = "(register k: -1 - k)")
    void lineRegistersAndNumbers() {
        LaneWarps x = with("warps 1;add a a b;add d c d;add a 0 999;");
        int[][] due = {{0, -1, -2}, {3, -3, -4}, {0, 0, 999}};
        for (int line = 0; line < 3; line++) {
            for (int k = 0; k < 3; k++) {
                same("line(" + line + ", " + (k + 1) + ")", x.line(line, k + 1), due[line][k]);
            }
        }
    }

    @Holds(at = "Promise 7", says = "6 MEET (the number of LINES: the END).")
    void lineMeetsAtTheEnd() {
        same("line(0, 6)", with("warps 1;x:go x if a<1;").line(0, 6), 1);
        same("line(39, 6)", with("warps 1;x:" + "yield;".repeat(39) + "go x if a<1;").line(39, 6), 40);
    }

    // Promise 8

    @Holds(at = "Promise 8", says = "NOTHING when there is none such, or for others.")
    void laneNothing() {
        LaneWarps x = with("warps 3;end;");
        for (int warp : new int[] {LEAST, -1, 3, 4, GREATEST}) {
            same("lane(" + warp + ", 0, 0)", x.lane(warp, 0, 0), NOTHING);
        }
        for (int lane : new int[] {LEAST, -1, 8, GREATEST}) {
            same("lane(0, " + lane + ", 0)", x.lane(0, lane, 0), NOTHING);
        }
        for (int what : new int[] {LEAST, -1, 7, GREATEST}) {
            same("lane(0, 0, " + what + ")", x.lane(0, 0, what), NOTHING);
        }
        same("lane(2, 7, 6)", x.lane(2, 7, 6), 0);
        same("lane(0, 0, 0) without a program", new LaneWarps().lane(0, 0, 0), NOTHING);
    }

    @Holds(at = "Promise 8", says = "0 .. 3 its registers, 4 whether it LIVES, 5 WAITS,")
    void laneLivesAndWaits() {
        LaneWarps x = behind(5, "warps 2;mode fair;lane a;go x if a<1;bar;x:end;");
        // LANES 1 .. 7 of WARP 0 WAIT, LANE 0 has ENDED; WARP 1 has done one LINE
        int[] first = {0, 0, 0, 0, 0, 0, 4};
        int[] last = {7, 0, 0, 0, 1, 1, 2};
        for (int what = 0; what < 7; what++) {
            same("lane(0, 0, " + what + ")", x.lane(0, 0, what), first[what]);
            same("lane(0, 7, " + what + ")", x.lane(0, 7, what), last[what]);
        }
        same("lane(1, 0, 4)", x.lane(1, 0, 4), 1);
        same("lane(1, 0, 5)", x.lane(1, 0, 5), 0);
    }

    @Holds(at = "Promise 8", says = "6 its next LINE (by stack that of the topmost PART it is in; the number of LINES, if it has ENDED).")
    void laneTopmostPart() {
        LaneWarps x = behind(2, "warps 1;lane a;go x if a<4;set b 1;go y;x:set b 2;y:end;");
        stack(x, 5, 6, 255, 2, 5, 240, 4, 5, 15);
        same("lane(0, 0, 6)", x.lane(0, 0, 6), 4);
        same("lane(0, 7, 6)", x.lane(0, 7, 6), 2);
        x.cycles(1);
        same("lane(0, 0, 6)", x.lane(0, 0, 6), 5);
        x.cycles(3);
        for (int lane = 0; lane < 8; lane++) {
            same("lane(0, " + lane + ", 6)", x.lane(0, lane, 6), 6);
            same("lane(0, " + lane + ", 4)", x.lane(0, lane, 4), 0);
        }
    }

    @Holds(at = "Promise 8", says = "the number of LINES, if it has ENDED).")
    void laneThatHasEnded() {
        for (int mode = 0; mode < 2; mode++) {
            LaneWarps x = with("warps 1;lane a;go x if a<4;end;x:end;set b 1;");
            x.set(mode, 0, 0);
            x.cycles(20);
            same("lane(0, 0, 6)", x.lane(0, 0, 6), 5);
            same("lane(0, 7, 6)", x.lane(0, 7, 6), 5);
            same("lane(0, 7, 0)", x.lane(0, 7, 0), 7);
        }
    }

    // Promise 9

    @Holds(at = "Promise 9", says = "NONE when there is none such, or for others.")
    void warpNone() {
        LaneWarps x = with("warps 3;end;");
        for (int warp : new int[] {LEAST, -1, 3, 4, GREATEST}) {
            same("warp(" + warp + ", 0)", x.warp(warp, 0), NONE);
        }
        for (int what : new int[] {LEAST, -1, 6, GREATEST}) {
            same("warp(0, " + what + ")", x.warp(0, what), NONE);
        }
        same("warp(2, 0)", x.warp(2, 0), 255);
        same("warp(0, 0) without a program", new LaneWarps().warp(0, 0), NONE);
    }

    @Holds(at = "Promise 9", says = "4 LINES done since BEGIN, 5 whether it can GO.")
    void warpLinesDoneAndWhetherItCanGo() {
        LaneWarps x = with("warps 2;set a 1;load b 0;end;");
        int[] lines = {0, 1, 2, 2, 2, 3, 3};
        int[] go = {1, 1, 0, 0, 1, 0, 0};
        int[] other = {1, 1, 1, 1, 0, 0, 1};
        for (int cycle = 0; cycle < lines.length; cycle++) {
            // WARP 0: set at 0, load at 1, READY at 4, end at 4; WARP 1: set at 2, load at 3, READY at 6
            same("warp(0, 4) at " + cycle, x.warp(0, 4), lines[cycle]);
            same("warp(0, 5) at " + cycle, x.warp(0, 5), go[cycle]);
            same("warp(1, 5) at " + cycle, x.warp(1, 5), other[cycle]);
            x.cycles(1);
        }
        same("warp(1, 4)", x.warp(1, 4), 3);
        x.begin();
        same("warp(1, 4)", x.warp(1, 4), 0);
    }

    @Holds(at = "Promise 9", says = "2 PARTS (0 by fair), 3 TURN (0 by stack),")
    void warpPartsAndTurn() {
        LaneWarps x = with("warps 1;lane a;go x if a<4;set b 1;x:end;");
        x.cycles(2);
        same("warp(0, 2)", x.warp(0, 2), 2);
        same("warp(0, 3)", x.warp(0, 3), 0);
        x.set(1, 0, 0);
        same("warp(0, 2)", x.warp(0, 2), 0);
        x.cycles(2);
        same("warp(0, 2)", x.warp(0, 2), 0);
        same("warp(0, 3)", x.warp(0, 3), 2);
        x.set(0, 0, 0);
        same("warp(0, 2)", x.warp(0, 2), 1);
        same("warp(0, 3)", x.warp(0, 3), 0);
    }

    @Holds(at = "Promise 9", says = "0 LANES that LIVE, as bits, 1 READY,")
    void warpLanesAndReady() {
        LaneWarps x = with("warps 1;lane a;go x if a=7;end;x:mul b a 9;load c 0;end;");
        same("warp(0, 0)", x.warp(0, 0), 255);
        same("warp(0, 1)", x.warp(0, 1), 0);
        x.cycles(4);
        same("warp(0, 0)", x.warp(0, 0), 255);
        same("warp(0, 1)", x.warp(0, 1), 6);
        x.cycles(3);
        same("warp(0, 0)", x.warp(0, 0), 127);
        x.cycles(1);
        same("warp(0, 0)", x.warp(0, 0), 0);
        same("warp(0, 1)", x.warp(0, 1), 8);
    }

    // Promise 10

    @Holds(at = "Promise 10", says = "NONE when there is none such (by fair there are none), or for others.")
    void partNone() {
        LaneWarps x = behind(2, "warps 2;lane a;go x if a<4;set b 1;x:end;");
        for (int warp : new int[] {LEAST, -1, 2, GREATEST}) {
            same("part(" + warp + ", 0, 0)", x.part(warp, 0, 0), NONE);
        }
        for (int k : new int[] {LEAST, -1, 2, GREATEST}) {
            same("part(0, " + k + ", 0)", x.part(0, k, 0), NONE);
        }
        for (int what : new int[] {LEAST, -1, 3, GREATEST}) {
            same("part(0, 0, " + what + ")", x.part(0, 0, what), NONE);
        }
        same("part(0, 1, 2)", x.part(0, 1, 2), 240);
        same("part(1, 1, 0)", x.part(1, 1, 0), NONE);
        same("part(0, 0, 0) without a program", new LaneWarps().part(0, 0, 0), NONE);
    }

    @Holds(at = "Promise 10", says = "0 its next LINE, 1 where it MEETS, 2 its LANES, as bits.")
    void partOfEachWarp() {
        LaneWarps x = behind(2, "warps 2;lane a;go x if a>0;set b 1;go y;x:set b 2;y:end;");
        stack(x, 5, 6, 255, 2, 5, 1, 4, 5, 254);
        int[] due = {0, 6, 255};
        for (int what = 0; what < 3; what++) {
            same("part(1, 0, " + what + ")", x.part(1, 0, what), due[what]);
        }
    }

    @Holds(at = "Promise 10", says = "(by fair there are none)")
    void partByFair() {
        LaneWarps x = with("warps 1;mode fair;lane a;go x if a<4;set b 1;x:end;");
        for (int k = 0; k < 4; k++) {
            same("part(0, 0, 0)", x.part(0, 0, 0), NONE);
            x.cycles(1);
        }
    }

    @Holds(at = "Promise 10", says = "Of the k-th PART of a WARP's STACK, the lowest is 0:")
    void partWhenAllHaveEnded() {
        LaneWarps x = behind(1, "warps 1;end;");
        same("part(0, 0, 0)", x.part(0, 0, 0), NONE);
        same("part(0, 0, 2)", x.part(0, 0, 2), NONE);
    }

    // Promise 11

    @Holds(at = "Promise 11", says = "A word of the far memory (near false), of the near one;")
    void wordFarAndNear() {
        LaneWarps x = with("warps 1;word 31 5;end;");
        x.poke(true, 31, 6);
        same("word(false, 31)", x.word(false, 31), 5);
        same("word(true, 31)", x.word(true, 31), 6);
    }

    @Holds(at = "Promise 11", says = "NOTHING when there is none such, or without a program.")
    void wordNothing() {
        LaneWarps x = with("warps 1;word 63 7;end;");
        same("word(false, 63)", x.word(false, 63), 7);
        same("word(true, 31)", x.word(true, 31), 0);
        for (int k : new int[] {LEAST, -1, 64, GREATEST}) {
            same("word(false, " + k + ")", x.word(false, k), NOTHING);
        }
        for (int k : new int[] {LEAST, -1, 32, 63, GREATEST}) {
            same("word(true, " + k + ")", x.word(true, k), NOTHING);
        }
        same("word(false, 0) without a program", new LaneWarps().word(false, 0), NOTHING);
        same("word(true, 0) without a program", new LaneWarps().word(true, 0), NOTHING);
    }

    // Promise 12

    @Holds(at = "Promise 12", says = "Whether a word is RACED;")
    void racedFarAndNear() {
        LaneWarps x = behind(20, "warps 1;store 0 1;end;");
        same("raced(false, 0)", x.raced(false, 0), 1);
        same("raced(true, 0)", x.raced(true, 0), 0);
        LaneWarps y = behind(20, "warps 1;put 0 1;end;");
        same("raced(false, 0)", y.raced(false, 0), 0);
        same("raced(true, 0)", y.raced(true, 0), 1);
    }

    @Holds(at = "Promise 12", says = "NONE when there is none such, or without a program.")
    void racedNone() {
        LaneWarps x = behind(20, "warps 1;store 63 1;put 31 1;end;");
        same("raced(false, 63)", x.raced(false, 63), 1);
        same("raced(true, 31)", x.raced(true, 31), 1);
        same("raced(false, 62)", x.raced(false, 62), 0);
        same("raced(true, 30)", x.raced(true, 30), 0);
        same("raced(false, 31)", x.raced(false, 31), 0);
        for (int k : new int[] {LEAST, -1, 64, 95, GREATEST}) {
            same("raced(false, " + k + ")", x.raced(false, k), NONE);
        }
        for (int k : new int[] {LEAST, -1, 32, 63, GREATEST}) {
            same("raced(true, " + k + ")", x.raced(true, k), NONE);
        }
        same("raced(false, 0) without a program", new LaneWarps().raced(false, 0), NONE);
        same("raced(true, 0) without a program", new LaneWarps().raced(true, 0), NONE);
    }

    // Promise 13

    @Holds(at = "Promise 13", says = "NONE when there is none such, or for others.")
    void keptNone() {
        LaneWarps x = with(FOREVER);
        same("kept(0, 0)", x.kept(0, 0), NONE);
        x.cycles(1);
        same("kept(0, 0)", x.kept(0, 0), 0);
        for (int k : new int[] {LEAST, -1, 1, GREATEST}) {
            same("kept(" + k + ", 0)", x.kept(k, 0), NONE);
        }
        for (int what : new int[] {LEAST, -1, 5, GREATEST}) {
            same("kept(0, " + what + ")", x.kept(0, what), NONE);
        }
        same("kept(0, 0) without a program", new LaneWarps().kept(0, 0), NONE);
    }

    @Holds(at = "Promise 13", says = "0 CYCLE, 1 WARP, 2 LINE, 3 LANES, as bits, 4 what it TAKES.")
    void keptCells() {
        LaneWarps x = behind(9, "warps 2;lane a;go x if a=7;load b a;x:end;");
        // WARP 0: lane, go, then load of LANES 0 .. 6 at CYCLE 2; WARP 1 the same from CYCLE 3 on; WARP 0 is READY at 5
        int[][] due = {{0, 0, 0, 255, 1}, {1, 0, 1, 255, 1}, {2, 0, 2, 127, 3}, {3, 1, 0, 255, 1}, {4, 1, 1, 255, 1},
            {5, 0, 3, 255, 1}, {6, 1, 2, 127, 3}};
        for (int k = 0; k < due.length; k++) {
            for (int what = 0; what < 5; what++) {
                same("kept(" + k + ", " + what + ")", x.kept(k, what), due[k][what]);
            }
        }
        same("has(7)", x.has(7), 7);
    }

    @Holds(at = "Promise 13", says = "Of the k-th told as KEPT, from the oldest on:")
    void keptFromTheOldestOn() {
        LaneWarps x = with("warps 2;order turns;x:go x;");
        bringTo(x, 9999);
        for (int k = 0; k < 30; k++) {
            same("kept(" + k + ", 0)", x.kept(k, 0), 9969 + k);
            same("kept(" + k + ", 1)", x.kept(k, 1), (9969 + k) % 2);
        }
        same("kept(30, 0)", x.kept(30, 0), NONE);
    }

    // Promise 23

    @Holds(at = "Promise 23", says = "n CYCLES (1 .. 400): how many LINES were done;")
    void cycles1To400() {
        LaneWarps x = with(FOREVER);
        same("cycles(1)", x.cycles(1), 1);
        same("cycles(400)", x.cycles(400), 400);
        same("has(2)", x.has(2), 401);
        LaneWarps waits = with("warps 1;load a 0;end;");
        same("cycles(3)", waits.cycles(3), 1);
        same("cycles(1)", waits.cycles(1), 1);
        same("cycles(400)", waits.cycles(400), 0);
        same("has(2)", waits.has(2), 404);
    }

    @Holds(at = "Promise 23", says = "NONE, refused (2), when n can't be,")
    void cyclesThatCantBe() {
        LaneWarps x = behind(5, FOREVER);
        String before = look(x);
        for (int n : new int[] {LEAST, -1, 0, 401, GREATEST}) {
            same("cycles(" + n + ")", x.cycles(n), NONE);
        }
        same("status(2)", x.status(2), 5);
        same("all stays", look(x).equals(before), true);
    }

    @Holds(at = "Promise 23", says = "it would come beyond 9999,")
    void cyclesBeyond9999() {
        LaneWarps x = with(FOREVER);
        bringTo(x, 9600);
        String before = look(x);
        same("cycles(400)", x.cycles(400), NONE);
        same("all stays", look(x).equals(before), true);
        same("cycles(399)", x.cycles(399), 399);
        same("has(2)", x.has(2), 9999);
        same("cycles(1)", x.cycles(1), NONE);
        same("status(2)", x.status(2), 2);
        same("undo()", x.undo(), true);
        same("has(2)", x.has(2), 9600);
    }

    @Holds(at = "Promise 23", says = "or without a program.")
    void cyclesWithoutAProgram() {
        LaneWarps x = new LaneWarps();
        same("cycles(1)", x.cycles(1), NONE);
        same("status(2)", x.status(2), 1);
    }

    // Promise 24

    @Holds(at = "Promise 24", says = "A word of the far memory, of the near one,")
    void pokeFarAndNear() {
        LaneWarps x = with("warps 1;load a 31;get b 31;end;");
        same("poke(false, 31, 5)", x.poke(false, 31, 5), 0);
        same("poke(true, 31, 6)", x.poke(true, 31, 6), 0);
        x.cycles(9);
        registers(x, 0, 7, 5, 6);
        same("has(6)", x.has(6), 0);
        same("has(7)", x.has(7), 3);
    }

    @Holds(at = "Promise 24", says = "is a number (-9999 .. 9999): what it was;")
    void pokeTheBounds() {
        LaneWarps x = with("warps 1;word 0 5;end;");
        same("poke(false, 0, -9999)", x.poke(false, 0, -9999), 5);
        same("poke(false, 0, 9999)", x.poke(false, 0, 9999), -9999);
        same("word(false, 0)", x.word(false, 0), 9999);
        same("poke(true, 0, 9999)", x.poke(true, 0, 9999), 0);
        same("poke(true, 0, -9999)", x.poke(true, 0, -9999), 9999);
        same("word(true, 0)", x.word(true, 0), -9999);
        same("poke(false, 63, 1)", x.poke(false, 63, 1), 0);
        same("poke(true, 31, 1)", x.poke(true, 31, 1), 0);
        same("has(8)", x.has(8), 6);
    }

    @Holds(at = "Promise 24", says = "NOTHING, refused (3), when there is none such,")
    void pokeNoSuchWord() {
        LaneWarps x = behind(1, FOREVER);
        String before = look(x);
        for (int k : new int[] {LEAST, -1, 64, GREATEST}) {
            same("poke(false, " + k + ", 1)", x.poke(false, k, 1), NOTHING);
        }
        for (int k : new int[] {LEAST, -1, 32, 63, GREATEST}) {
            same("poke(true, " + k + ", 1)", x.poke(true, k, 1), NOTHING);
        }
        same("status(3)", x.status(3), 9);
        same("all stays", look(x).equals(before), true);
    }

    @Holds(at = "Promise 24", says = "it can't be, or without a program.")
    void pokeANumberThatCantBe() {
        LaneWarps x = behind(1, FOREVER);
        String before = look(x);
        for (int value : new int[] {LEAST, -10000, 10000, GREATEST}) {
            same("poke(false, 0, " + value + ")", x.poke(false, 0, value), NOTHING);
            same("poke(true, 0, " + value + ")", x.poke(true, 0, value), NOTHING);
        }
        same("status(3)", x.status(3), 8);
        same("all stays", look(x).equals(before), true);
        LaneWarps y = new LaneWarps();
        same("poke(false, 0, 1)", y.poke(false, 0, 1), NOTHING);
        same("poke(true, 0, 1)", y.poke(true, 0, 1), NOTHING);
        same("status(3)", y.status(3), 2);
    }

    // Promise 25

    @Holds(at = "Promise 25", says = "Another MODE, ORDER, SKEW, then BEGIN: true;")
    void setEachOfAll() {
        for (int mode = 0; mode < 2; mode++) {
            for (int order = 0; order < 2; order++) {
                for (int skew = 0; skew < 4; skew++) {
                    LaneWarps x = behind(5, FOREVER);
                    same("set", x.set(mode, order, skew), true);
                    int[] due = {0, 0, 8, 0, 0, 0, 2, 0, mode, order, skew, 0};
                    for (int k = 0; k < due.length; k++) {
                        same("has(" + (k + 2) + ")", x.has(k + 2), due[k]);
                    }
                }
            }
        }
    }

    @Holds(at = "Promise 25", says = "false, refused (3), when these can't be,")
    void setWhatCantBe() {
        LaneWarps x = with(FOREVER);
        x.set(1, 1, 3);
        x.cycles(5);
        String before = look(x);
        for (int other : new int[] {LEAST, -1, 2, GREATEST}) {
            same("set(" + other + ", 0, 0)", x.set(other, 0, 0), false);
            same("set(0, " + other + ", 0)", x.set(0, other, 0), false);
        }
        for (int skew : new int[] {LEAST, -1, 4, GREATEST}) {
            same("set(0, 0, " + skew + ")", x.set(0, 0, skew), false);
        }
        same("status(3)", x.status(3), 12);
        same("all stays", look(x).equals(before), true);
    }

    @Holds(at = "Promise 25", says = "or without a program.")
    void setWithoutAProgram() {
        LaneWarps x = new LaneWarps();
        same("set(0, 0, 0)", x.set(0, 0, 0), false);
        same("status(3)", x.status(3), 1);
        same("has(12)", x.has(12), 0);
    }

    // Promise 26

    @Holds(at = "Promise 26", says = "BEGIN: true;")
    void beginAtBegin() {
        LaneWarps x = with("warps 1;word 0 5;end;");
        same("begin()", x.begin(), true);
        same("has(8)", x.has(8), 1);
        x.poke(false, 0, 9);
        same("begin()", x.begin(), true);
        same("word(false, 0)", x.word(false, 0), 5);
        same("has(8)", x.has(8), 3);
        x.undo();
        same("word(false, 0)", x.word(false, 0), 9);
    }

    @Holds(at = "Promise 26", says = "BEGIN: true;")
    void beginAt9999() {
        LaneWarps x = with(FOREVER);
        bringTo(x, 9999);
        same("begin()", x.begin(), true);
        same("has(2)", x.has(2), 0);
        same("cycles(1)", x.cycles(1), 1);
    }

    @Holds(at = "Promise 26", says = "false, refused (3), without a program.")
    void beginWithoutAProgram() {
        LaneWarps x = new LaneWarps();
        same("begin()", x.begin(), false);
        Check.tell(x, "!");
        same("begin()", x.begin(), false);
        same("status(3)", x.status(3), 2);
    }

    // Promise 27

    @Holds(at = "Promise 27", says = "n times by the seed (1 .. 20), one ACT: how many LINES were done;")
    void chance1To20() {
        LaneWarps x = with(FOREVER);
        LaneWarps y = with(FOREVER);
        int lines = 0;
        for (int k = 0; k < 20; k++) {
            lines += y.chance(1);
        }
        same("chance(20)", x.chance(20), lines);
        same("has(2)", x.has(2), y.has(2));
        same("has(8)", x.has(8), 1);
        same("has(8)", y.has(8), 20);
        same("undo()", x.undo(), true);
        same("has(2)", x.has(2), 0);
        LaneWarps ended = behind(1, "warps 1;end;");
        same("chance(20)", ended.chance(20), 0);
    }

    @Holds(at = "Promise 27", says = "NONE, refused (2), when n can't be,")
    void chanceThatCantBe() {
        LaneWarps x = behind(1, FOREVER);
        LaneWarps y = behind(1, FOREVER);
        String before = look(x);
        for (int n : new int[] {LEAST, -1, 0, 21, GREATEST}) {
            same("chance(" + n + ")", x.chance(n), NONE);
        }
        same("status(2)", x.status(2), 5);
        same("all stays", look(x).equals(before), true);
        same("the seed, too", x.chance(1), y.chance(1));
        same("the seed, too", look(x).equals(look(y)), true);
    }

    @Holds(at = "Promise 27", says = "or without a program.")
    void chanceWithoutAProgram() {
        LaneWarps x = new LaneWarps();
        same("chance(1)", x.chance(1), NONE);
        same("status(2)", x.status(2), 1);
        Check.tell(x, FOREVER);
        same("the seed stays", x.chance(1), with(FOREVER).chance(1));
    }

    // Promise 28

    @Holds(at = "Promise 28", says = "The latest ACT is undone (the seed stays): true;")
    void undoEachAct() {
        String text = "warps 2;word 3 4;lane a;store a a;put 1 a;bar;lane b;x:add c c 1;go x;";
        LaneWarps x = with(text);
        String[] looks = new String[6];
        looks[0] = look(x);
        x.cycles(30);
        looks[1] = look(x);
        x.poke(false, 7, -9999);
        looks[2] = look(x);
        x.chance(20);
        looks[3] = look(x);
        x.set(1, 1, 3);
        looks[4] = look(x);
        x.cycles(9);
        looks[5] = look(x);
        x.begin();
        for (int k = 5; k >= 0; k--) {
            same("undo()", x.undo(), true);
            same("as it was at " + k, look(x).equals(looks[k]), true);
        }
        same("undo()", x.undo(), false);
    }

    @Holds(at = "Promise 28", says = "The latest ACT is undone")
    void undoOfWhatIsKeptAndTouched() {
        LaneWarps kept = behind(30, FOREVER);
        kept.cycles(10);
        same("kept(0, 0)", kept.kept(0, 0), 10);
        kept.undo();
        for (int k = 0; k < 30; k++) {
            same("kept(" + k + ", 0)", kept.kept(k, 0), k);
        }
        // LANES write word 5 in an ACT that is undone; then one LANE alone does
        LaneWarps x = with("warps 1;load a 0;lane b;go x if a=b;load c 6;end;x:store 5 1;store 6 1;end;");
        for (int lane = 0; lane < 8; lane++) {
            x.poke(false, 0, lane);
            x.cycles(30);
            same("raced(false, 5)", x.raced(false, 5), 0);
            same("raced(false, 6)", x.raced(false, 6), 1);
            x.undo();
            same("raced(false, 6)", x.raced(false, 6), 0);
        }
        x.poke(false, 0, 9);
        x.cycles(30);
        same("raced(false, 6), only read", x.raced(false, 6), 0);
    }

    @Holds(at = "Promise 28", says = "(the seed stays)")
    void undoLeavesTheSeed() {
        LaneWarps x = with(FOREVER);
        LaneWarps y = with(FOREVER);
        x.chance(1);
        x.undo();
        y.chance(1);
        y.begin();
        same("chance(5)", x.chance(5), y.chance(5));
        LaneWarps z = with(FOREVER);
        z.cycles(1);
        z.seed(9);
        z.undo();
        LaneWarps w = with(FOREVER);
        w.seed(9);
        same("chance(5)", z.chance(5), w.chance(5));
        for (int k = 0; k < 64; k++) {
            same("word(false, " + k + ")", z.word(false, k), w.word(false, k));
        }
    }

    @Holds(at = "Promise 28", says = "false, refused (4), when none can be.")
    void undoWhenNoneCanBe() {
        LaneWarps x = new LaneWarps();
        same("undo()", x.undo(), false);
        Check.tell(x, FOREVER);
        String before = look(x);
        same("undo()", x.undo(), false);
        same("all stays", look(x).equals(before), true);
        x.cycles(1);
        same("undo()", x.undo(), true);
        same("undo()", x.undo(), false);
        same("status(4)", x.status(4), 3);
        x.cycles(1);
        Check.tell(x, FOREVER);
        same("undo() behind program()", x.undo(), false);
    }

    @Holds(at = "Promise 28", says = "The latest ACT is undone")
    void refusedCallsAreNoActs() {
        LaneWarps x = behind(1, FOREVER);
        x.cycles(0);
        x.poke(false, 64, 0);
        x.set(2, 0, 0);
        x.chance(0);
        x.seed(-1);
        x.undo();
        same("has(2)", x.has(2), 0);
        same("undo()", x.undo(), false);
    }

    @Holds(at = "Promise 28", says = "The latest ACT is undone")
    void undoAndActAgain() {
        LaneWarps x = with(FOREVER);
        for (int k = 1; k <= 25; k++) {
            x.cycles(k);
        }
        for (int round = 0; round < 12; round++) {
            same("undo()", x.undo(), true);
            same("undo()", x.undo(), true);
            x.poke(false, 0, round + 1);
            same("has(8)", x.has(8), 19 - round);
        }
        // each round took two ACTS and gave one: of the first 25 there are 12 left, under one poke
        same("has(2)", x.has(2), 12 * 13 / 2);
        for (int k = 8; k > 0; k--) {
            same("undo()", x.undo(), true);
        }
        same("undo()", x.undo(), false);
        same("has(2)", x.has(2), 1 + 2 + 3 + 4 + 5);
    }

    // Promise 29

    @Holds(at = "Promise 29", says = "false, refused (5), when it is below 0.")
    void seedsBelow0() {
        LaneWarps x = with(FOREVER);
        same("seed(-1)", x.seed(-1), false);
        same("seed(LEAST)", x.seed(LEAST), false);
        same("status(5)", x.status(5), 2);
        same("chance(1)", x.chance(1), with(FOREVER).chance(1));
        same("seed(0)", x.seed(0), true);
        same("seed(GREATEST)", x.seed(GREATEST), true);
        same("status(5)", x.status(5), 2);
    }

    @Holds(at = "Promise 29", says = "The seed: true;")
    void seedWithAndWithoutAProgram() {
        LaneWarps x = new LaneWarps();
        same("seed(5)", x.seed(5), true);
        Check.tell(x, FOREVER);
        LaneWarps y = with(FOREVER);
        same("seed(5)", y.seed(5), true);
        same("chance(7)", x.chance(7), y.chance(7));
        same("as it was", look(x).equals(look(y)), true);
        same("has(8)", x.has(8), 1);
    }

    @Holds(at = "Promise 29", says = "(It is 1 at first.)")
    void theSeedIs1AtFirst() {
        LaneWarps x = with(FOREVER);
        LaneWarps y = new LaneWarps();
        same("seed(1)", y.seed(1), true);
        Check.tell(y, FOREVER);
        same("chance(20)", x.chance(20), y.chance(20));
        for (int k = 0; k < 64; k++) {
            same("word(false, " + k + ")", x.word(false, k), y.word(false, k));
        }
        // the first DRAW of 64 is floor(1103527590 / 64) mod 64, then one of 16, one of 8
        LaneWarps z = with(FOREVER);
        same("chance(1)", z.chance(1), 3);
        same("word(false, 58)", z.word(false, 58), 3);
    }

    // Promise 30

    @Holds(at = "Promise 30", says = "How many were refused: 0 feed(), end(); 1 program(); 2 cycles(), chance(); 3 poke(), set(), begin(); 4 undo(); 5 seed().")
    void statusOfEach() {
        LaneWarps x = new LaneWarps();
        Runnable[] calls = {
            () -> x.end(1), () -> x.program(), () -> x.cycles(1), () -> x.chance(1), () -> x.poke(true, 0, 0),
            () -> x.set(0, 0, 0), () -> x.begin(), () -> x.undo(), () -> x.seed(-1),
        };
        int[] kind = {0, 1, 2, 2, 3, 3, 3, 4, 5};
        int[] due = new int[6];
        for (int k = 0; k < calls.length; k++) {
            calls[k].run();
            due[kind[k]]++;
            for (int what = 0; what < 6; what++) {
                same("status(" + what + ")", x.status(what), due[what]);
            }
        }
        feedBlanks(x, 81);
        same("status(0)", x.status(0), 2);
    }

    @Holds(at = "Promise 30", says = "How many were refused:")
    void statusOfWhatIsNotRefused() {
        LaneWarps x = with(FOREVER);
        x.cycles(400);
        x.chance(20);
        x.poke(false, 63, -9999);
        x.set(1, 1, 3);
        x.begin();
        x.undo();
        x.seed(0);
        // these answer NONE or NOTHING, but none of them is refused
        x.fault(9);
        x.has(14);
        x.line(40, 0);
        x.lane(4, 0, 0);
        x.later(401, 0, 0, 0);
        x.likely(64, 0, 0);
        x.status(6);
        for (int what = 0; what < 6; what++) {
            same("status(" + what + ")", x.status(what), 0);
        }
    }

    @Holds(at = "Promise 30", says = "How many were refused:")
    void statusOutlastsAProgram() {
        LaneWarps x = new LaneWarps();
        x.undo();
        x.cycles(1);
        Check.tell(x, FOREVER);
        x.cycles(1);
        x.undo();
        x.begin();
        same("status(4)", x.status(4), 1);
        same("status(2)", x.status(2), 1);
        same("status(1)", x.status(1), 0);
    }

    @Holds(at = "Promise 30", says = "NONE for others.")
    void statusNone() {
        for (int what : new int[] {LEAST, -1, 6, GREATEST}) {
            same("status(" + what + ")", new LaneWarps().status(what), NONE);
            same("status(" + what + ")", with(FOREVER).status(what), NONE);
        }
    }
}
