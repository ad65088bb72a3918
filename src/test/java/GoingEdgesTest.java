import java.io.IOException;

/** Terms II: the edges of numbers, addresses, STACKS, TURNS, CYCLES, bars, and of what is RACED and KEPT. */
public final class GoingEdgesTest extends Edges {
    public static void main(String[] args) throws IOException, ReflectiveOperationException {
        new GoingEdgesTest().runAll();
    }

    /** What the LINE TAKES that is done last but one, behind "lane a". */
    private void takes(int due, String lines) {
        LaneWarps x = behind(400, "warps 1;lane a;" + lines + "x:end;");
        same(lines, x.kept(x.has(7) - 2, 4), due);
    }

    /** The WARPS that go, CYCLE by CYCLE. */
    private void turns(String text, int... due) {
        LaneWarps x = with(text);
        for (int cycle = 0; cycle < due.length; cycle++) {
            same("next(0) at CYCLE " + cycle, x.next(0), due[cycle]);
            x.cycles(1);
        }
    }

    private void meet(int due, int line, String lines) {
        same(lines, with("warps 1;" + lines).line(line, 6), due);
    }

    // Numbers, addresses, BEGIN

    @Holds(at = "Terms II", says = "WARPS are numbered from 0 on, each has LANES 0 .. 7.")
    void warpsAndLanesAreNumberedFrom0On() {
        LaneWarps x = behind(400, "warps 4;warp a;lane b;");
        for (int warp = 0; warp < 4; warp++) {
            for (int lane = 0; lane < 8; lane++) {
                registers(x, warp, lane, warp, lane, 0, 0);
            }
        }
        same("lane(4, 0, 0)", x.lane(4, 0, 0), NOTHING);
        same("lane(0, 8, 0)", x.lane(0, 8, 0), NOTHING);
    }

    @Holds(at = "Terms II", says = "(whole numbers from -9999 to 9999; what would be beyond is that bound)")
    void numbersUpTo9999() {
        registers(behind(9, "warps 1;set a 999;mul a a 10;add b a 8;add c a 9;add d a 10;"), 0, 0, 9990, 9998, 9999, 9999);
        registers(behind(9, "warps 1;set a 99;mul b a 101;set a 100;mul c a a;add d c c;"), 0, 0, 100, 9999, 9999, 9999);
        registers(behind(9, "warps 1;set a 999;mul a a a;mul b a a;sub c 0 a;mul d c c;"), 0, 0, 9999, 9999, -9999, 9999);
    }

    @Holds(at = "Terms II", says = "(whole numbers from -9999 to 9999; what would be beyond is that bound)")
    void numbersDownToMinus9999() {
        registers(behind(9, "warps 1;set a 999;mul a a 10;sub b 0 a;sub c b 9;sub d b 10;"), 0, 0, 9990, -9990, -9999, -9999);
        registers(behind(9, "warps 1;sub a 0 100;mul b a 99;mul c a 100;sub d c 999;"), 0, 0, -100, -9900, -9999, -9999);
        registers(behind(9, "warps 1;set a 999;mul a a a;sub b 0 a;mul c a b;sub d b a;"), 0, 0, 9999, -9999, -9999, -9999);
        registers(behind(9, "warps 1;set a 999;mul a a a;sub b 0 a;add c b b;add d a b;"), 0, 0, 9999, -9999, -9999, 0);
    }

    @Holds(at = "Terms II", says = "There are 64 words of the far memory, 32 of the near one (numbers likewise;")
    void wordsHoldTheBoundsToo() {
        LaneWarps x = behind(40, "warps 1;set a 999;mul a a a;sub b 0 a;store 0 a;store 63 b;put 0 b;put 31 a;load c 63;get d 31;");
        same("word(false, 0)", x.word(false, 0), 9999);
        same("word(false, 63)", x.word(false, 63), -9999);
        same("word(true, 0)", x.word(true, 0), -9999);
        same("word(true, 31)", x.word(true, 31), 9999);
        registers(x, 0, 5, 9999, -9999, -9999, 9999);
    }

    /** Words hold their own numbers; a register made by a LINE is the address. */
    private void farAddress(int due, String line) {
        LaneWarps x = behind(40, "warps 1;" + line + "store a 5;end;");
        for (int k = 0; k < 64; k++) {
            same(line + " store, word(false, " + k + ")", x.word(false, k), k == due ? 5 : 0);
        }
        LaneWarps y = behind(40, "warps 1;word " + due + " 6;" + line + "load b a;end;");
        same(line + " load", y.lane(0, 0, 1), 6);
    }

    @Holds(at = "Terms II", says = "addresses are modulo 64, 32, 0 at least)")
    void farAddressesGoRound() {
        farAddress(63, "set a 63;");
        farAddress(0, "set a 64;");
        farAddress(1, "set a 65;");
        farAddress(39, "set a 999;");
        farAddress(63, "sub a 0 1;");
        farAddress(1, "sub a 0 63;");
        farAddress(0, "sub a 0 64;");
        farAddress(63, "sub a 0 65;");
        farAddress(15, "set a 999;mul a a a;");
        farAddress(49, "set a 999;mul a a a;sub a 0 a;");
    }

    private void nearAddress(int due, String line) {
        LaneWarps x = behind(40, "warps 1;" + line + "put a 5;end;");
        for (int k = 0; k < 32; k++) {
            same(line + " put, word(true, " + k + ")", x.word(true, k), k == due ? 5 : 0);
        }
        LaneWarps y = behind(40, "warps 1;put " + due + " 6;" + line + "get b a;set c 4;bar;end;");
        same(line + " get", y.lane(0, 0, 1), 6);
        LaneWarps z = behind(40, "warps 1;lane c;" + line + "swap c a;end;");
        same(line + " swap", z.word(true, due), 7);
    }

    @Holds(at = "Terms II", says = "addresses are modulo 64, 32, 0 at least)")
    void nearAddressesGoRound() {
        nearAddress(31, "set a 31;");
        nearAddress(0, "set a 32;");
        nearAddress(1, "set a 33;");
        nearAddress(31, "set a 63;");
        nearAddress(31, "sub a 0 1;");
        nearAddress(0, "sub a 0 32;");
        nearAddress(31, "sub a 0 33;");
        nearAddress(15, "set a 999;mul a a a;");
        nearAddress(17, "set a 999;mul a a a;sub a 0 a;");
    }

    @Holds(at = "Terms II", says = "At BEGIN registers and the near memory are 0, the far one is as told, all LIVE, the CYCLE is 0, nothing is RACED or KEPT.")
    void atBegin() {
        LaneWarps x = with("warps 4;word 0 1;word 63 999;set a 5;put 0 1;store 0 2;bar;end;");
        for (int again = 0; again < 2; again++) {
            for (int warp = 0; warp < 4; warp++) {
                registers(x, warp, 0, 0, 0, 0, 0);
                registers(x, warp, 7, 0, 0, 0, 0);
                same("warp(" + warp + ", 0)", x.warp(warp, 0), 255);
                same("lane(" + warp + ", 7, 5)", x.lane(warp, 7, 5), 0);
            }
            same("word(true, 0)", x.word(true, 0), 0);
            same("word(true, 31)", x.word(true, 31), 0);
            same("word(false, 0)", x.word(false, 0), 1);
            same("word(false, 1)", x.word(false, 1), 0);
            same("word(false, 63)", x.word(false, 63), 999);
            int[] due = {32, 0, 0, 0};
            for (int k = 0; k < 4; k++) {
                same("has(" + (4 + k) + ")", x.has(4 + k), due[k]);
            }
            same("has(2)", x.has(2), 0);
            x.cycles(30);
            x.begin();
        }
    }

    @Holds(at = "Terms II", says = "At BEGIN registers and the near memory are 0, the far one is as told, all LIVE,")
    void atBeginByFair() {
        LaneWarps x = behind(5, "warps 1;mode fair;lane a;go x if a<4;set b 1;x:set b 2;end;");
        x.begin();
        for (int lane = 0; lane < 8; lane++) {
            same("lane(0, " + lane + ", 6)", x.lane(0, lane, 6), 0);
            registers(x, 0, lane, 0, 0, 0, 0);
        }
        same("warp(0, 1)", x.warp(0, 1), 0);
        same("warp(0, 3)", x.warp(0, 3), 0);
        same("warp(0, 4)", x.warp(0, 4), 0);
        same("next(2)", x.next(2), 255);
    }

    @Holds(at = "Terms II", says = "nothing is RACED or KEPT.")
    void whatWasTouchedAheadOfBeginDoesNotRace() {
        // one LANE alone writes word 5, another one at each BEGIN
        LaneWarps x = with("warps 1;load a 0;lane b;go x if a=b;load c 6;end;x:store 5 1;store 6 1;end;");
        for (int lane = 0; lane < 8; lane++) {
            x.begin();
            x.poke(false, 0, lane);
            x.cycles(30);
            same("raced(false, 5)", x.raced(false, 5), 0);
            same("raced(false, 6)", x.raced(false, 6), 1);
        }
        x.begin();
        x.poke(false, 0, 9);
        x.cycles(30);
        same("raced(false, 6), only read", x.raced(false, 6), 0);
    }

    // What LINES do

    @Holds(at = "Terms II", says = "set: R is X; add, sub, mul: the first and the second;")
    void aRegisterIntoItself() {
        registers(behind(9, "warps 1;set a 3;add a a a;set b 3;sub b b b;set c 3;mul c c c;set d 3;set d d;"), 0, 7, 6, 0, 9, 3);
        registers(behind(9, "warps 1;set a 999;set b 0;sub c b a;sub d a b;"), 0, 7, 999, 0, -999, 999);
    }

    @Holds(at = "Terms II", says = "store, put: the word at the first is the second;")
    void theFirstIsTheAddressTheSecondTheNumber() {
        LaneWarps x = behind(40, "warps 1;store 3 4;put 5 6;lane a;add b a 20;store b b;put b b;end;");
        same("word(false, 3)", x.word(false, 3), 4);
        same("word(false, 4)", x.word(false, 4), 0);
        same("word(true, 5)", x.word(true, 5), 6);
        same("word(true, 6)", x.word(true, 6), 0);
        for (int k = 20; k < 28; k++) {
            same("word(false, " + k + ")", x.word(false, k), k);
            same("word(true, " + k + ")", x.word(true, k), k);
        }
    }

    @Holds(at = "Terms II", says = "rem: the first modulo the second (0 at least and below it;")
    void remOfNumbersAroundTheSecond() {
        registers(behind(9, "warps 1;rem a 6 7;rem b 7 7;rem c 8 7;rem d 0 7;"), 0, 0, 6, 0, 1, 0);
        registers(behind(9, "warps 1;rem a 999 1;rem b 998 999;rem c 999 999;rem d 999 998;"), 0, 0, 0, 998, 0, 1);
    }

    @Holds(at = "Terms II", says = "(0 at least and below it;")
    void remOfNumbersBelow0() {
        registers(behind(9, "warps 1;sub d 0 1;rem a d 7;rem b d 1;rem c d 999;"), 0, 0, 6, 0, 998, -1);
        registers(behind(9, "warps 1;sub d 0 7;rem a d 7;rem b d 8;rem c d 6;"), 0, 0, 0, 1, 5, -7);
        registers(behind(9, "warps 1;set d 999;mul d d d;sub c 0 d;rem a c d;rem b c 2;"), 0, 0, 0, 1, -9999, 9999);
    }

    @Holds(at = "Terms II", says = "0, if that is 0 or less)")
    void remBy0OrLess() {
        registers(behind(9, "warps 1;sub d 0 1;rem a 7 0;rem b 7 d;rem c d 0;"), 0, 0, 0, 0, 0, -1);
        registers(behind(9, "warps 1;set a 5;sub d 0 999;rem a a d;set b 5;rem b d d;rem c 0 0;"), 0, 0, 0, 0, 0, -999);
    }

    @Holds(at = "Terms II", says = "lane, warp: the number of LANE, WARP;")
    void laneAndWarpFromFirstToLast() {
        LaneWarps x = behind(400, "warps 4;lane a;warp d;");
        registers(x, 0, 0, 0, 0, 0, 0);
        registers(x, 0, 7, 7, 0, 0, 0);
        registers(x, 3, 0, 0, 0, 0, 3);
        registers(x, 3, 7, 7, 0, 0, 3);
    }

    @Holds(at = "Terms II", says = "load, get: R is the word of the far, the near memory at X;")
    void anAddressInTheRegisterThatIsLoaded() {
        LaneWarps x = behind(40, "warps 1;word 3 40;word 40 9;set a 3;load a a;load a a;set b 5;put b 6;get b b;");
        registers(x, 0, 0, 9, 6);
    }

    @Holds(at = "Terms II", says = "swap: R and the word of the near memory at X change places;")
    void anAddressInTheRegisterThatIsSwapped() {
        LaneWarps x = behind(40, "warps 1;lane a;add a a 10;swap a a;end;");
        for (int lane = 0; lane < 8; lane++) {
            same("lane(0, " + lane + ", 0)", x.lane(0, lane, 0), 0);
            same("word(true, " + (10 + lane) + ")", x.word(true, 10 + lane), 10 + lane);
        }
    }

    @Holds(at = "Terms II", says = "go: the next LINE is that of the NAME, if it holds (without if always);")
    void goAtTheEdgesOfItsSign() {
        String[] signs = {"<", "=", ">"};
        int[][] due = {{1, 0, 0}, {0, 1, 0}, {0, 0, 1}};
        for (int sign = 0; sign < 3; sign++) {
            for (int first = 4; first <= 6; first++) {
                LaneWarps x = behind(3, "warps 1;set a " + first + ";go x if a" + signs[sign] + "5;set b 1;x:end;");
                same(first + signs[sign] + "5", x.lane(0, 0, 1) == 0, due[sign][first - 4] == 1);
            }
        }
        same("without if", behind(3, "warps 1;go x;set b 1;x:end;").lane(0, 0, 1), 0);
    }

    @Holds(at = "Terms II", says = "end: it has ENDED; so it has behind the last LINE.")
    void behindTheLastLineItHasEnded() {
        for (String mode : new String[] {"mode stack;", "mode fair;"}) {
            for (String last : new String[] {"end;", "set a 1;", "load a 0;", "put 0 0;", "swap a 0;", "bar;", "yield;", "x:go x if a>0;"}) {
                LaneWarps x = with("warps 1;" + mode + last);
                same(mode + last + " goes(0)", x.goes(0), 0);
                same(mode + last + " goes(1)", x.goes(1), 1);
                x.cycles(1);
                same(mode + last + " has(4)", x.has(4), 0);
                same(mode + last + " lane(0, 7, 6)", x.lane(0, 7, 6), 1);
                same(mode + last + " has(5)", x.has(5), 0);
            }
        }
    }

    @Holds(at = "Terms II", says = "All LANES that go together read first, then write; of several that write one word that of the greatest number stays;")
    void theGreatestLaneOfThoseThatWriteStays() {
        LaneWarps all = behind(40, "warps 1;lane a;store 3 a;put 3 a;end;");
        same("word(false, 3)", all.word(false, 3), 7);
        same("word(true, 3)", all.word(true, 3), 7);
        LaneWarps some = behind(40, "warps 1;lane a;go x if a>2;store 3 a;put 3 a;x:end;");
        same("word(false, 3)", some.word(false, 3), 2);
        same("word(true, 3)", some.word(true, 3), 2);
        LaneWarps falling = behind(40, "warps 1;lane a;sub b 7 a;store 3 b;put 35 b;end;");
        same("word(false, 3)", falling.word(false, 3), 0);
        same("word(true, 3)", falling.word(true, 3), 0);
    }

    @Holds(at = "Terms II", says = "swap goes LANE by LANE, rising.")
    void swapGoesLaneByLane() {
        LaneWarps x = behind(40, "warps 1;put 3 99;lane a;swap a 3;end;");
        eachLane(x, 0, 99, 0, 1, 2, 3, 4, 5, 6);
        same("word(true, 3)", x.word(true, 3), 7);
        LaneWarps two = behind(40, "warps 1;lane a;rem b a 2;add c a 1;swap c b;end;");
        eachLane(two, 2, 0, 0, 1, 2, 3, 4, 5, 6);
        same("word(true, 0)", two.word(true, 0), 7);
        same("word(true, 1)", two.word(true, 1), 8);
    }

    // MEET

    @Holds(at = "Terms II", says = "the one that comes first on all of these ways;")
    void meetOfTheShortestWays() {
        meet(1, 0, "go x if a<1;x:end;");
        meet(1, 0, "x:go x if a<1;end;");
        meet(2, 0, "go x if a<1;set b 1;x:end;");
        meet(2, 1, "set a 1;go x if a<1;x:go x if a>1;end;");
    }

    @Holds(at = "Terms II", says = "of all LINES, and the END behind the last one, such as are on each way from behind it to the END")
    void meetAtTheEnd() {
        meet(1, 0, "x:go x if a<1;");
        meet(3, 0, "go x if a<1;end;x:end;");
        meet(4, 0, "go x if a<1;set b 1;end;x:set b 2;");
        meet(40, 0, "go x if a<1;end;x:" + "yield;".repeat(37) + "end;");
    }

    @Holds(at = "Terms II", says = "(go without if leads to its NAME alone, end to the END)")
    void meetBehindAGoWithoutIf() {
        meet(4, 0, "go x if a<1;set b 1;go y;x:set b 2;y:end;");
        meet(3, 0, "go x if a<1;go y;x:go y;y:end;");
        meet(1, 3, "go s;m:set a 1;end;s:go t if a<1;go m;t:go m;");
        meet(0, 1, "m:go ex if a>3;go s if b<1;go m;s:go m;ex:end;");
    }

    @Holds(at = "Terms II", says = "the END, if no way leads there.")
    void meetWhereNoWayLeadsToTheEnd() {
        meet(2, 0, "x:go x if a<1;go x;");
        meet(4, 0, "x:go y if a<1;go x;y:go x;end;");
        meet(2, 0, "x:go y if a<1;y:go x;");
    }

    @Holds(at = "Terms II", says = "the END, if no way leads there.")
    void meetOfALaterGoWhereNoWayLeadsToTheEnd() {
        meet(5, 1, "x:yield;go y if a<1;go x;y:go x;end;");
        meet(6, 3, "end;x:yield;yield;go y if a<1;go x;y:go x;");
    }

    @Holds(at = "Terms II", says = "the one that comes first on all of these ways;")
    void meetFirstOnTheWaysThoughNotInTheText() {
        meet(4, 2, "go s;m:end;s:go t if a<1;set b 1;t:go m;");
        meet(6, 4, "go s;m:set a 1;n:set a 2;end;s:go t if a<1;set b 1;t:set b 2;go m;");
    }

    @Holds(at = "Terms II", says = "such as are on each way from behind it to the END")
    void meetWhereOneOfTheTwoWaysDoesNotLeadToTheEnd() {
        meet(1, 0, "go x if a<1;set b 1;end;x:go x;");
        meet(2, 0, "go x if a<1;y:go y;x:set b 1;end;");
    }

    // STACKS

    @Holds(at = "Terms II", says = "at BEGIN one: LINE 0, the END, all.")
    void theStackAtBegin() {
        stack(with("warps 1;end;"), 0, 1, 255);
        stack(with(FOREVER + "end;".repeat(39)), 0, 40, 255);
    }

    @Holds(at = "Terms II", says = "If by a go some of its LANES go, some not,")
    void allOrNoneGo() {
        stack(behind(2, "warps 1;lane a;go x if a<8;set b 1;x:end;"), 3, 4, 255);
        stack(behind(2, "warps 1;lane a;go x if a>7;set b 1;x:end;"), 2, 4, 255);
        stack(behind(2, "warps 1;lane a;go x;set b 1;x:end;"), 3, 4, 255);
    }

    @Holds(at = "Terms II", says = "its LINE becomes MEET of the go, its LANES stay, and two PARTS come on top: those that don't, next LINE the one behind, then those that do, their LINE; both MEET there;")
    void oneGoesOrOneStays() {
        stack(behind(2, "warps 1;lane a;go x if a<1;set b 1;go y;x:set b 2;y:end;"), 5, 6, 255, 2, 5, 254, 4, 5, 1);
        stack(behind(2, "warps 1;lane a;go x if a<7;set b 1;go y;x:set b 2;y:end;"), 5, 6, 255, 2, 5, 128, 4, 5, 127);
    }

    @Holds(at = "Terms II", says = "such a one is not laid whose LINE is MEET")
    void partsThatAreNotLaid() {
        // the LINE of those that go is MEET
        stack(behind(2, "warps 1;lane a;go x if a<4;set b 1;x:end;"), 3, 4, 255, 2, 3, 240);
        // the LINE behind is MEET
        stack(behind(3, "warps 1;go s;x:set b 1;go m;s:lane a;go x if a<4;m:end;"), 5, 6, 255, 1, 5, 15);
        // both are
        stack(behind(2, "warps 1;lane a;go x if a<4;x:end;"), 2, 3, 255);
    }

    @Holds(at = "Terms II", says = "(LANES of one whose LINE is the END have ENDED)")
    void thoseThatDontGoAtTheLastLineHaveEnded() {
        LaneWarps x = behind(2, "warps 1;x:lane a;go x if a>2;");
        stack(x, 2, 2, 248, 0, 2, 248);
        same("warp(0, 0)", x.warp(0, 0), 248);
        same("lane(0, 2, 4)", x.lane(0, 2, 4), 0);
        same("lane(0, 2, 6)", x.lane(0, 2, 6), 2);
        same("lane(0, 3, 6)", x.lane(0, 3, 6), 0);
    }

    @Holds(at = "Terms II", says = "By MODE stack a WARP has a STACK of PARTS:")
    void theDeepestStack() {
        StringBuilder s = new StringBuilder("warps 1;lane a;");
        for (int k = 0; k < 7; k++) {
            char name = (char) ('p' + k);
            s.append("go ").append(name).append(" if a>").append(k).append(";end;").append(name).append(":");
        }
        // 0 lane, then go, end seven times: LINE 2k+1 is the go past LANE k, 15 the last end, 16 the END
        LaneWarps x = behind(8, s + "end;");
        same("warp(0, 2)", x.warp(0, 2), 15);
        for (int k = 0; k < 7; k++) {
            same("LANES of the PART that stays", x.part(0, 2 * k + 1, 2), 1 << k);
            same("its LINE", x.part(0, 2 * k + 1, 0), 2 * k + 2);
            same("LANES of the PART that goes", x.part(0, 2 * k + 2, 2), 255 & 255 << k + 1);
        }
        same("its LINE", x.part(0, 14, 0), 15);
        same("part(0, 15, 0)", x.part(0, 15, 0), NONE);
        goes(x, 0, 8, NONE);
        x.cycles(8);
        stack(x);
    }

    @Holds(at = "Terms II", says = "Behind a yield, if the PART below has the same point where it MEETS and is not there, these two change places.")
    void yieldChangesPlaces() {
        LaneWarps x = behind(3, "warps 1;lane a;go x if a<4;set b 1;go y;x:yield;set b 2;y:end;");
        stack(x, 6, 7, 255, 5, 6, 15, 2, 6, 240);
    }

    @Holds(at = "Terms II", says = "Behind a yield, if the PART below has the same point where it MEETS and is not there,")
    void yieldWithNoPartBelow() {
        stack(behind(1, "warps 1;yield;end;"), 1, 2, 255);
    }

    @Holds(at = "Terms II", says = "if the PART below has the same point where it MEETS")
    void yieldAboveAPartThatMeetsElsewhere() {
        // the lowest PART waits at 4, where it will not MEET; the one above MEETS at 4
        stack(behind(3, "warps 1;lane a;go x if a<4;yield;set b 1;x:end;"), 4, 5, 255, 3, 4, 240);
    }

    @Holds(at = "Terms II", says = "and is not there, these two change places.")
    void yieldAboveAPartThatIsWhereItMeets() {
        // both MEET at the END, but the lowest is there
        LaneWarps x = behind(4, "warps 1;lane a;go x if a<4;yield;end;x:end;");
        stack(x, 5, 5, 240, 3, 5, 240);
        // one has yielded at its last LINE ahead of 6, where both MEET; the other one yields above it
        LaneWarps y = behind(5, "warps 1;lane a;go x if a<4;set b 1;yield;go y;x:yield;y:end;");
        stack(y, 6, 7, 255, 6, 6, 15, 4, 6, 240);
    }

    @Holds(at = "Terms II", says = "LANES of the top PART, if it is at the END, have ENDED; LANES that have ENDED are in no PART;")
    void lanesThatHaveEndedAreInNoPart() {
        LaneWarps x = behind(3, "warps 1;lane a;go x if a<4;set b 1;end;x:end;");
        stack(x, 5, 5, 240, 2, 5, 240);
        same("has(4)", x.has(4), 4);
        x.cycles(2);
        stack(x);
        same("has(4)", x.has(4), 0);
    }

    @Holds(at = "Terms II", says = "as long as the top PART has no LANES, or is at the point where it MEETS and there is one below, it goes.")
    void severalPartsGoAtOnce() {
        // both go tell x, so of all PARTS that MEET there the last one takes the others with it
        LaneWarps x = behind(4, "warps 1;lane a;go x if a<4;go x if a<6;set b 1;x:end;");
        stack(x, 4, 5, 255);
        LaneWarps before = behind(3, "warps 1;lane a;go x if a<4;go x if a<6;set b 1;x:end;");
        stack(before, 4, 5, 255, 4, 4, 240, 3, 4, 192);
    }

    @Holds(at = "Terms II", says = "as long as the top PART has no LANES,")
    void partsWithoutLanesGo() {
        // each round leaves one PART more that waits at the END; the last LANE takes all of them with it
        LaneWarps x = behind(23, "warps 1;x:lane a;add b b 1;go x if a>b;");
        same("warp(0, 0)", x.warp(0, 0), 0);
        stack(x);
        LaneWarps before = behind(18, "warps 1;x:lane a;add b b 1;go x if a>b;");
        stack(before, 3, 3, 128, 3, 3, 128, 3, 3, 128, 3, 3, 128, 3, 3, 128, 3, 3, 128, 0, 3, 128);
    }

    @Holds(at = "Terms II", says = "Behind all that, and when a bar is over:")
    void aBarThatIsOverAtTheEnd() {
        LaneWarps x = behind(4, "warps 1;lane a;go x if a<4;go z;x:end;z:bar;");
        stack(x, 5, 5, 240, 4, 5, 240);
        x.cycles(1);
        stack(x);
        same("has(4)", x.has(4), 0);
        same("has(9)", x.has(9), 1);
    }

    @Holds(at = "Terms II", says = "A PART at a bar: its LANES WAIT there.")
    void thePartBelowOneThatWaitsCantGo() {
        LaneWarps x = behind(3, "warps 1;lane a;go x if a<4;set b 1;go y;x:bar;y:end;");
        same("has(5)", x.has(5), 4);
        same("lane(0, 3, 5)", x.lane(0, 3, 5), 1);
        same("lane(0, 4, 5)", x.lane(0, 4, 5), 0);
        same("warp(0, 5)", x.warp(0, 5), 0);
        goes(x, 1, 0, NONE);
    }

    // TURNS of LANES

    @Holds(at = "Terms II", says = "a WARP has a TURN (0 at BEGIN):")
    void turnAtBegin() {
        LaneWarps x = behind(3, "warps 2;mode fair;x:go x;");
        same("warp(0, 3)", x.warp(0, 3), 3);
        same("warp(1, 3)", x.warp(1, 3), 0);
        x.begin();
        same("warp(0, 3)", x.warp(0, 3), 0);
    }

    @Holds(at = "Terms II", says = "the first one from TURN on (behind 7 comes 0);")
    void turnGoesRound() {
        LaneWarps x = with("warps 1;mode fair;x:go x;");
        for (int k = 1; k <= 17; k++) {
            x.cycles(1);
            same("warp(0, 3)", x.warp(0, 3), k % 8);
        }
        // only LANE 0 LIVES when TURN is 4
        LaneWarps y = behind(4, "warps 1;mode fair;lane a;go x if a=0;end;x:yield;go x;");
        same("warp(0, 0)", y.warp(0, 0), 1);
        same("next(2)", y.next(2), 1);
        y.cycles(1);
        same("warp(0, 3)", y.warp(0, 3), 1);
    }

    @Holds(at = "Terms II", says = "of its LANES that LIVE and don't WAIT the first one from TURN on")
    void turnPassesThoseThatWaitOrHaveEnded() {
        // 0 lane, 1 go: TURN 2; LANES 0 .. 3 are at the bar, LANES 4 .. 7 at x
        LaneWarps x = behind(3, "warps 1;mode fair;lane a;go x if a>3;bar;end;x:yield;yield;end;");
        same("has(5)", x.has(5), 4);
        same("warp(0, 3)", x.warp(0, 3), 3);
        same("next(2)", x.next(2), 240);
        x.cycles(1);
        same("warp(0, 3)", x.warp(0, 3), 5);
        LaneWarps y = behind(3, "warps 1;mode fair;lane a;go x if a>3;end;x:yield;yield;end;");
        same("warp(0, 0)", y.warp(0, 0), 240);
        y.cycles(1);
        same("warp(0, 3)", y.warp(0, 3), 5);
    }

    @Holds(at = "Terms II", says = "all of these that have the same next LINE go together;")
    void thoseThatWaitDontGoWithThoseThatCome() {
        // LANES 0 .. 3 WAIT at the bar when the others come there
        LaneWarps x = with("warps 1;mode fair;lane a;go x if a<4;yield;x:bar;end;");
        x.cycles(3);
        same("kept(2, 3)", x.kept(2, 3), 15);
        same("has(5)", x.has(5), 4);
        x.cycles(1);
        same("kept(3, 2)", x.kept(3, 2), 2);
        same("next(1)", x.next(1), 3);
        same("next(2)", x.next(2), 240);
        x.cycles(1);
        same("has(9)", x.has(9), 1);
        same("next(2)", x.next(2), 255);
    }

    @Holds(at = "Terms II", says = "TURN is behind that one.")
    void turnIsBehindTheFirstNotBehindTheLast() {
        LaneWarps x = behind(1, "warps 1;mode fair;lane a;end;");
        same("warp(0, 3)", x.warp(0, 3), 1);
        // at a bar, too
        same("warp(0, 3)", behind(1, "warps 2;mode fair;bar;end;").warp(0, 3), 1);
    }

    // CYCLES

    @Holds(at = "Terms II", says = "and READY is no more than the CYCLE.")
    void readyAtItsCycle() {
        LaneWarps x = behind(1, "warps 1;load a 0;end;");
        same("warp(0, 1)", x.warp(0, 1), 3);
        for (int cycle = 1; cycle <= 3; cycle++) {
            same("has(2)", x.has(2), cycle);
            same("warp(0, 5)", x.warp(0, 5), cycle == 3 ? 1 : 0);
            same("next(0)", x.next(0), cycle == 3 ? 0 : NONE);
            same("cycles(1)", x.cycles(1), cycle == 3 ? 1 : 0);
        }
    }

    @Holds(at = "Terms II", says = "a WARP can GO, if it has LANES that LIVE and don't WAIT (by stack in its top PART),")
    void warpsThatCantGo() {
        LaneWarps ended = behind(1, "warps 2;end;");
        same("warp(0, 5)", ended.warp(0, 5), 0);
        same("warp(1, 5)", ended.warp(1, 5), 1);
        LaneWarps waits = behind(1, "warps 2;bar;end;");
        same("warp(0, 5)", waits.warp(0, 5), 0);
        same("warp(1, 5)", waits.warp(1, 5), 1);
        LaneWarps fair = behind(3, "warps 1;mode fair;lane a;go x if a<4;bar;x:bar;end;");
        same("has(5)", fair.has(5), 4);
        same("warp(0, 5)", fair.warp(0, 5), 1);
    }

    @Holds(at = "Terms II", says = "By ORDER age the first one that can GO goes,")
    void byAge() {
        turns("warps 4;set a 1;end;", 0, 0, 1, 1, 2, 2, 3, 3, NONE);
        turns("warps 3;load a 0;end;", 0, 1, 2, 0, 1, 2, NONE);
        turns("warps 2;order age;load a 0;set b 1;set b 2;end;", 0, 1, NONE, 0, 0, 0, 1, 1, 1, NONE);
    }

    @Holds(at = "Terms II", says = "by turns the first one behind the one that went last (behind the last comes 0; 0 first at BEGIN).")
    void byTurns() {
        turns("warps 1;order turns;set a 1;set b 1;end;", 0, 0, 0, NONE);
        turns("warps 4;order turns;set a 1;end;", 0, 1, 2, 3, 0, 1, 2, 3, NONE);
        turns("warps 2;order turns;load a 0;set b 1;end;", 0, 1, NONE, 0, 1, 0, 1, NONE);
        LaneWarps x = behind(2, "warps 3;order turns;x:go x;");
        same("next(0)", x.next(0), 2);
        x.begin();
        same("next(0)", x.next(0), 0);
    }

    @Holds(at = "Terms II", says = "by turns the first one behind the one that went last")
    void byTurnsPastThoseThatCantGo() {
        // WARP 1 ENDS at its second LINE
        turns("warps 3;order turns;warp a;go x if a=1;y:yield;go y;x:end;", 0, 1, 2, 0, 1, 2, 0, 1, 2, 0, 2, 0, 2);
        // WARP 0 alone is left
        turns("warps 3;order turns;warp a;go x if a>0;y:yield;go y;x:end;", 0, 1, 2, 0, 1, 2, 0, 1, 2, 0, 0, 0);
    }

    @Holds(at = "Terms II", says = "It does one LINE; READY is the CYCLE and what that TAKES:")
    void readyIsTheCycleAndWhatItTakes() {
        LaneWarps x = with("warps 2;lane a;mul b a 8;load c b;end;");
        int[] due = {1, 2, 12, 12};
        for (int cycle = 0; cycle < 4; cycle++) {
            x.cycles(1);
            same("warp(0, 1)", x.warp(0, 1), due[cycle]);
            same("has(3)", x.has(3), cycle + 1);
        }
        same("warp(1, 1)", x.warp(1, 1), 4);
        // it is not READY at 11; at 12 it goes
        x.cycles(8);
        same("warp(0, 5)", x.warp(0, 5), 1);
        same("warp(0, 4)", x.warp(0, 4), 3);
        x.cycles(1);
        same("warp(0, 1)", x.warp(0, 1), 13);
    }

    @Holds(at = "Terms II", says = "load, store: 2 and how many unlike SEGMENTS (8 words each, from 0 on) its LANES ask;")
    void segments() {
        takes(3, "load b 0;");
        takes(3, "load b a;");
        takes(3, "add b a 56;load c b;");
        takes(4, "add b a 1;load c b;");
        takes(4, "add b a 57;load c b;");
        takes(4, "sub b a 1;store b 1;");
        takes(10, "mul b a 8;load c b;");
        takes(10, "mul b a 8;store b 1;");
        takes(6, "mul b a 16;store b 1;");
        takes(3, "mul b a 64;store b 1;");
        takes(3, "go x if a>0;load b a;");
    }

    @Holds(at = "Terms II", says = "get, put: of each BANK (address modulo 4) how many unlike addresses are asked, the most of these;")
    void banks() {
        takes(1, "get b 0;");
        takes(1, "rem b a 4;get c b;");
        takes(2, "get b a;");
        takes(2, "rem b a 5;get c b;");
        takes(8, "mul b a 4;get c b;");
        takes(8, "mul b a 4;put b 1;");
        takes(4, "mul b a 8;put b 1;");
        takes(1, "mul b a 32;put b 1;");
        takes(1, "go x if a>0;put a 1;");
    }

    @Holds(at = "Terms II", says = "swap: as many as LANES go;")
    void swapTakesAsManyAsLanes() {
        takes(8, "swap b a;");
        takes(8, "swap b 0;");
        takes(7, "go x if a=3;swap b a;");
        takes(1, "go x if a>0;swap b a;");
    }

    @Holds(at = "Terms II", says = "all others 1. At a bar (1, too)")
    void allOthersTake1() {
        for (String line : new String[] {"set b 1;", "add b a a;", "sub b a a;", "mul b a a;", "rem b a 3;", "lane b;", "warp b;", "go x;", "yield;"}) {
            takes(1, line);
        }
        takes(1, "bar;");
        same("end", behind(9, "warps 1;end;").kept(0, 4), 1);
    }

    @Holds(at = "Terms II", says = "its LANES WAIT, their next LINE stays the bar.")
    void atABarTheLineStays() {
        LaneWarps x = behind(2, "warps 2;set a 1;bar;end;");
        same("has(5)", x.has(5), 8);
        same("lane(0, 0, 6)", x.lane(0, 0, 6), 1);
        same("warp(0, 1)", x.warp(0, 1), 2);
        LaneWarps y = behind(2, "warps 2;mode fair;set a 1;bar;end;");
        same("has(5)", y.has(5), 8);
        same("lane(0, 7, 6)", y.lane(0, 7, 6), 1);
    }

    @Holds(at = "Terms II", says = "Then, if there are LANES that LIVE and all of these WAIT: none WAITS more, their next LINE is the one behind, and an EPOCH begins.")
    void theLastOneThatComesOpensTheBar() {
        LaneWarps x = behind(3, "warps 4;bar;end;");
        same("has(5)", x.has(5), 24);
        same("has(9)", x.has(9), 0);
        x.cycles(1);
        same("has(5)", x.has(5), 0);
        same("has(9)", x.has(9), 1);
        for (int warp = 0; warp < 4; warp++) {
            same("lane(" + warp + ", 0, 6)", x.lane(warp, 0, 6), 1);
        }
        same("has(9) of one WARP", behind(1, "warps 1;bar;end;").has(9), 1);
    }

    @Holds(at = "Terms II", says = "Then, if there are LANES that LIVE and all of these WAIT:")
    void theLastOneThatEndsOpensTheBar() {
        LaneWarps x = behind(5, "warps 2;warp a;go x if a=1;bar;end;x:end;");
        same("has(5)", x.has(5), 8);
        same("has(4)", x.has(4), 16);
        x.cycles(1);
        same("has(4)", x.has(4), 8);
        same("has(5)", x.has(5), 0);
        same("has(9)", x.has(9), 1);
        same("lane(0, 0, 6)", x.lane(0, 0, 6), 3);
    }

    @Holds(at = "Terms II", says = "none WAITS more, their next LINE is the one behind,")
    void oneLaneAloneAtTheBar() {
        // the others END, by stack ahead of the one that stays, by fair as it WAITS
        for (int lane = 0; lane < 8; lane++) {
            for (int mode = 0; mode < 2; mode++) {
                LaneWarps x = with("warps 2;lane a;go e if a<" + lane + ";go e if a>" + lane + ";bar;set b 1;end;e:end;");
                x.set(mode, 0, 0);
                x.cycles(40);
                same("lane(0, " + lane + ", 1)", x.lane(0, lane, 1), 1);
                same("lane(1, " + lane + ", 1)", x.lane(1, lane, 1), 1);
                same("has(4)", x.has(4), 0);
                same("has(9)", x.has(9), 1);
            }
        }
    }

    @Holds(at = "Terms II", says = "if there are LANES that LIVE and all of these WAIT:")
    void whereNoneLivesNoEpochBegins() {
        same("has(9)", behind(9, "warps 1;end;").has(9), 0);
        same("has(9)", behind(9, "warps 2;set a 1;").has(9), 0);
        // the bar is over once; that its LANES END behind it begins no other EPOCH
        same("has(9)", behind(9, "warps 1;bar;").has(9), 1);
    }

    @Holds(at = "Terms II", says = "Then the CYCLE is 1 more (9999 at most; then none comes).")
    void theCycleUpTo9999() {
        LaneWarps x = with(FOREVER);
        bringTo(x, 9998);
        same("has(2)", x.has(2), 9998);
        same("cycles(1)", x.cycles(1), 1);
        same("has(2)", x.has(2), 9999);
        same("cycles(1)", x.cycles(1), NONE);
        same("chance(1)", x.chance(1), 0);
        same("has(2)", x.has(2), 9999);
        same("next(0)", x.next(0), NONE);
    }

    @Holds(at = "Terms II", says = "Then the CYCLE is 1 more")
    void aCycleInWhichNoneGoesCountsToo() {
        LaneWarps x = behind(5, "warps 1;end;");
        same("has(2)", x.has(2), 5);
        same("has(3)", x.has(3), 1);
    }

    // TOUCHED, RACED, KEPT

    private void raced(int due, boolean near, int k, String lines) {
        same(lines, behind(300, "warps 1;lane a;" + lines).raced(near, k), due);
    }

    @Holds(at = "Terms II", says = "TOUCHED is a word by a LANE that asks it by load, store, get, put.")
    void whatDoesNotTouch() {
        raced(0, true, 0, "swap b 0;");
        raced(0, true, 0, "go x if a>0;put 0 1;x:swap b 0;");
        LaneWarps x = with("warps 1;load a 5;end;");
        x.poke(false, 5, 1);
        x.cycles(9);
        x.poke(false, 5, 2);
        same("raced(false, 5)", x.raced(false, 5), 0);
    }

    @Holds(at = "Terms II", says = "if in one EPOCH two LANES TOUCH it, one of which writes it.")
    void oneLaneIsNotTwo() {
        raced(0, false, 3, "go x if a=3;end;x:store 3 1;load b 3;store 67 2;end;");
        raced(0, true, 3, "put a 1;get b a;put a 2;");
        raced(1, false, 3, "go x if a<2;end;x:store 3 1;end;");
    }

    @Holds(at = "Terms II", says = "one of which writes it.")
    void thoseThatOnlyReadDontRace() {
        raced(0, false, 3, "load b 3;load c 3;");
        raced(0, true, 3, "get b 3;get c 3;");
        raced(1, false, 3, "load b 3;go x if a>0;store 3 1;x:end;");
        raced(1, false, 3, "go x if a>0;store 3 1;x:load b 3;");
        raced(1, true, 3, "get b 35;go x if a>0;put 67 1;x:end;");
    }

    @Holds(at = "Terms II", says = "if in one EPOCH two LANES TOUCH it,")
    void aBarBetweenMakesTwoEpochs() {
        raced(0, true, 0, "go x if a>0;put 0 1;x:bar;go y if a<7;get b 0;y:end;");
        raced(1, true, 0, "go x if a>0;put 0 1;x:go y if a<7;get b 0;y:end;");
        raced(0, false, 0, "load b 0;bar;go y if a<7;store 0 1;y:end;");
    }

    @Holds(at = "Terms II", says = "if in one EPOCH two LANES TOUCH it,")
    void whatWasWrittenAheadOfTheBarIsNotWrittenBehindIt() {
        raced(0, true, 0, "put a a;bar;get b 0;");
        raced(0, false, 0, "store a a;bar;load b 0;bar;load b 0;");
        raced(0, false, 3, "store a a;bar;load b a;");
        raced(1, false, 3, "store a a;bar;load b 3;go x if a>0;store 3 1;x:end;");
    }

    @Holds(at = "Terms II", says = "It is RACED (from then on),")
    void racedItStaysSo() {
        LaneWarps x = with("warps 1;store 3 1;bar;bar;end;");
        same("raced(false, 3)", x.raced(false, 3), 0);
        for (int k = 0; k < 9; k++) {
            x.cycles(1);
            same("raced(false, 3)", x.raced(false, 3), 1);
        }
        x.begin();
        same("raced(false, 3)", x.raced(false, 3), 0);
    }

    @Holds(at = "Terms II", says = "two LANES TOUCH it,")
    void lanesOfTwoWarpsAreTwo() {
        LaneWarps x = behind(60, "warps 2;lane a;store a 1;end;");
        same("has(6)", x.has(6), 8);
        LaneWarps y = behind(90, "warps 4;lane a;warp b;go x if a<7;go x if b=1;go x if b=2;store 9 1;x:end;");
        same("LANE 7 of WARP 0 and of WARP 3", y.raced(false, 9), 1);
        for (int one = 0; one < 32; one++) {
            String text = "warps 4;lane a;warp b;mul c b 8;add c c a;go x if c=" + one + ";go x if c=" + (one + 7) % 32 + ";end;x:store 9 1;end;";
            same("LANES " + one + " and " + (one + 7) % 32, behind(200, text).raced(false, 9), 1);
        }
    }

    @Holds(at = "Terms II", says = "KEPT is each LINE that was done: CYCLE, WARP, LINE, LANES (bits, 1 for LANE 0), what it TAKES; the last 30 are told.")
    void keptUpTo30() {
        LaneWarps x = behind(29, FOREVER);
        same("has(7)", x.has(7), 29);
        same("kept(28, 0)", x.kept(28, 0), 28);
        same("kept(29, 0)", x.kept(29, 0), NONE);
        for (int cycle = 30; cycle <= 61; cycle++) {
            x.cycles(1);
            same("has(7)", x.has(7), 30);
            same("kept(0, 0)", x.kept(0, 0), cycle - 30);
            same("kept(29, 0)", x.kept(29, 0), cycle - 1);
            same("kept(30, 0)", x.kept(30, 0), NONE);
        }
    }

    @Holds(at = "Terms II", says = "KEPT is each LINE that was done: CYCLE, WARP, LINE, LANES (bits, 1 for LANE 0), what it TAKES;")
    void aCycleInWhichNoneGoesIsNotKept() {
        LaneWarps x = behind(9, "warps 1;load a 0;end;");
        same("has(7)", x.has(7), 2);
        int[][] due = {{0, 0, 0, 255, 3}, {3, 0, 1, 255, 1}};
        for (int k = 0; k < 2; k++) {
            for (int what = 0; what < 5; what++) {
                same("kept(" + k + ", " + what + ")", x.kept(k, what), due[k][what]);
            }
        }
    }
}
