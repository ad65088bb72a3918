import java.io.IOException;

/** Terms I: the edges of what a PROGRAM's text may be, with the FAULT and the place that are due beyond them. */
public final class TextEdgesTest extends Edges {
    private static final String OWN_WORDS = "warps word mode stack fair order age turns set add sub mul rem lane warp load store"
            + " get put swap go if bar yield end a b c d";
    private static final String LINE_WORDS = " set add sub mul rem lane warp load store get put swap go bar yield end ";
    /** Each kind of STATEMENT behind the first, whole, with a blank between all pieces. */
    private static final String[] STATEMENTS = {
        "word 1 2", "mode fair", "order turns", "set a 1", "add a 1 2", "sub a 1 2", "mul a 1 2", "rem a 1 2", "lane a", "warp a",
        "load a 1", "store 1 2", "get a 1", "put 1 2", "swap a 1", "go x", "go x if a < 1", "bar", "yield", "end",
    };

    public static void main(String[] args) throws IOException, ReflectiveOperationException {
        new TextEdgesTest().runAll();
    }

    /** A text of so many STATEMENTS, of which the last one alone is a LINE. */
    private static String statements(int count) {
        return "warps 1;" + "word 1 1;".repeat(count - 2) + "end;";
    }

    private static String lines(int count) {
        return "warps 1;" + "end;".repeat(count);
    }

    @Holds(at = "Terms I", says = "{ STATEMENT ; } (80 at most)")
    void eightyStatementsAreFine() {
        fine(statements(79), 1);
        fine(statements(80), 1);
    }

    @Holds(at = "Terms I", says = "{ STATEMENT ; }")
    void eachStatementNeedsItsSemicolon() {
        wrong("warps 1 end;", 1, 8);
        wrongLine("end", 1, 3);
        wrongLine("end end;", 1, 4);
        wrongLine(";end;", 1, 0);
        wrongLine("end;;", 1, 4);
    }

    @Holds(at = "Terms I", says = "5 one too many, at its first byte: an 81st STATEMENT (whatever stands there")
    void anEightyFirstStatementIsTooManyWhateverItIs() {
        String eighty = statements(80);
        for (String more : new String[] {"end;", "mode fair;", "warps 1;", "x:end;", "abcdefgh", "word 99 1;", "!", ";", "1234"}) {
            wrong(eighty + more, 5, eighty.length());
            wrong(eighty + " \n " + more, 5, eighty.length() + 3);
        }
    }

    @Holds(at = "Terms I", says = "(whatever stands there, if anything does)")
    void blanksBehindTheEightiethStatementAreNone() {
        fine(statements(80) + " ", 1);
        fine(statements(80) + "\n \n", 1);
    }

    @Holds(at = "Terms I", says = "5 one too many, at its first byte: an 81st STATEMENT")
    void eightyStatementsWithoutALineThenOneMore() {
        String eighty = "warps 1;" + "word 1 1;".repeat(79);
        wrong(eighty, 1, eighty.length());
        wrong(eighty + "end;", 5, eighty.length());
    }

    @Holds(at = "Terms I", says = "warps N (1 .. 4 WARPS;")
    void oneToFourWarps() {
        wrong("warps 0;end;", 2, 6);
        for (int warps = 1; warps <= 4; warps++) {
            LaneWarps x = with("warps " + warps + ";end;");
            same("has(1)", x.has(1), warps);
            same("has(4)", x.has(4), 8 * warps);
        }
        wrong("warps 5;end;", 2, 6);
        wrong("warps 999;end;", 2, 6);
    }

    @Holds(at = "Terms I", says = "the first STATEMENT, and no other")
    void warpsStandsFirstAndOnce() {
        wrong("end;warps 1;", 1, 0);
        wrong("mode fair;warps 1;end;", 1, 0);
        wrong("x:end;", 1, 0);
        wrong("1;", 1, 0);
        wrongLine("warps 1;end;", 1, 0);
        wrongLine("end;warps 1;", 1, 4);
        wrongLine("x:warps 1;", 1, 2);
    }

    @Holds(at = "Terms I", says = "word N N (of the far memory a word 0 .. 63,")
    void wordsOfTheFarMemoryAre0To63() {
        LaneWarps x = with("warps 1;word 0 7;word 63 8;end;");
        same("word(false, 0)", x.word(false, 0), 7);
        same("word(false, 63)", x.word(false, 63), 8);
        wrongLine("word 64 1;end;", 2, 5);
        wrongLine("word 999 1;end;", 2, 5);
    }

    @Holds(at = "Terms I", says = "what is in it at BEGIN, 0 .. 999;")
    void aWordHolds0To999() {
        LaneWarps x = with("warps 1;word 1 0;word 2 999;end;");
        same("word(false, 1)", x.word(false, 1), 0);
        same("word(false, 2)", x.word(false, 2), 999);
        wrongLine("word 1 1000;end;", 1, 10);
        wrongLine("word 1 -1;end;", 1, 7);
    }

    @Holds(at = "Terms I", says = "the last one counts, 0 without)")
    void theLastWordCounts() {
        LaneWarps x = with("warps 1;word 5 7;end;word 5 9;word 6 3;word 6 0;");
        same("word(false, 5)", x.word(false, 5), 9);
        same("word(false, 6)", x.word(false, 6), 0);
        same("word(false, 7)", x.word(false, 7), 0);
    }

    @Holds(at = "Terms I", says = "mode stack, mode fair; order age, order turns (the last ones count; stack, age without)")
    void theLastModeAndOrderCount() {
        LaneWarps without = with("warps 1;end;");
        same("has(10)", without.has(10), 0);
        same("has(11)", without.has(11), 0);
        LaneWarps last = with("warps 1;mode stack;order age;end;mode fair;order turns;");
        same("has(10)", last.has(10), 1);
        same("has(11)", last.has(11), 1);
        LaneWarps first = with("warps 1;mode fair;order turns;end;mode stack;order age;");
        same("has(10)", first.has(10), 0);
        same("has(11)", first.has(11), 0);
    }

    @Holds(at = "Terms I", says = "mode stack, mode fair; order age, order turns")
    void noOtherOwnWordIsAModeOrAnOrder() {
        for (String own : OWN_WORDS.split(" ")) {
            if (!own.equals("stack") && !own.equals("fair")) {
                wrongLine("mode " + own + ";end;", 1, 5);
            }
            if (!own.equals("age") && !own.equals("turns")) {
                wrongLine("order " + own + ";end;", 1, 6);
            }
        }
    }

    @Holds(at = "Terms I", says = "LINES (1 to 40, numbers from 0 on as told)")
    void oneToFortyLines() {
        wrong("warps 1;", 1, 8);
        fine(lines(1), 1);
        fine(lines(39), 39);
        fine(lines(40), 40);
        LaneWarps x = with(lines(38) + "bar;yield;");
        same("line(0, 0)", x.line(0, 0), 15);
        same("line(38, 0)", x.line(38, 0), 13);
        same("line(39, 0)", x.line(39, 0), 14);
        same("line(40, 0)", x.line(40, 0), NOTHING);
    }

    @Holds(at = "Terms I", says = "a 41st LINE.")
    void aFortyFirstLineIsTooMany() {
        wrong(lines(41), 5, 168);
        wrong(lines(40) + " \nend;", 5, 170);
        wrong(lines(40) + "x:end;", 5, 168);
        wrong(lines(40) + "set e;", 5, 168);
        wrong(lines(40) + "go;", 5, 168);
    }

    @Holds(at = "Terms I", says = "a 41st LINE.")
    void otherStatementsBehindTheFortiethLineAreFine() {
        fine(lines(40) + "mode fair;order turns;word 1 2;", 40);
        wrong(lines(40) + "mode fair;end;", 5, 178);
        wrong(lines(40) + "stack;", 1, 168);
        wrong(lines(40) + "word 64 1;", 2, 173);
    }

    @Holds(at = "Terms I", says = "each [ NAME : ] and one of:")
    void aLineHasOneNameOrNone() {
        fineLine("x:end;", 1);
        fineLine("end;", 1);
        wrongLine("x:y:end;", 1, 2);
        wrongLine(":end;", 1, 0);
        wrongLine("x end;", 1, 2);
        wrongLine("x::end;", 1, 2);
        wrongLine("x:;", 1, 2);
    }

    @Holds(at = "Terms I", says = "and LINES (1 to 40, numbers from 0 on as told), each [ NAME : ] and one of:")
    void onlyLinesBearNames() {
        wrongLine("x:word 1 2;", 1, 2);
        wrongLine("x:mode fair;", 1, 2);
        wrongLine("x:order age;", 1, 2);
        wrongLine("x:warps 1;", 1, 2);
        wrongLine("x:stack;", 1, 2);
        wrongLine("x:a;", 1, 2);
        wrongLine("x:7;", 1, 2);
    }

    @Holds(at = "Terms I", says = "set R X; add R X X; sub R X X; mul R X X; rem R X X; lane R; warp R; load R X; store X X; get R X; put X X; swap R X; go NAME [ if X SIGN X ]; bar; yield; end.")
    void tooFewPieces() {
        for (String whole : STATEMENTS) {
            String[] pieces = whole.split(" ");
            String text = pieces[0];
            for (int k = 1; k < pieces.length; k++) {
                boolean wholeWithoutIf = text.equals("go x");
                wrongLine(text + ";", wholeWithoutIf ? 3 : 1, wholeWithoutIf ? 3 : text.length());
                text += " " + pieces[k];
            }
        }
    }

    @Holds(at = "Terms I", says = "set R X; add R X X; sub R X X; mul R X X; rem R X X; lane R; warp R; load R X; store X X; get R X; put X X; swap R X; go NAME [ if X SIGN X ]; bar; yield; end.")
    void tooManyPieces() {
        for (String whole : STATEMENTS) {
            fineLine(whole + ";x:end;", whole.matches("(word|mode|order) .*") ? 1 : 2);
            for (String more : new String[] {"1", "a", "x", "set", ":", "<", "if a"}) {
                if (!(whole + " " + more).equals("go x if a")) {
                    wrongLine(whole + " " + more + ";x:end;", 1, whole.length() + 1);
                }
            }
        }
    }

    @Holds(at = "Terms I", says = "R: a, b, c or d.")
    void aRegisterIsAToD() {
        LaneWarps x = with("warps 1;lane a;lane b;lane c;lane d;");
        for (int k = 0; k < 4; k++) {
            same("line(" + k + ", 1)", x.line(k, 1), k);
        }
        wrongLine("lane e;", 1, 5);
        wrongLine("lane A;", 1, 5);
        wrongLine("lane aa;", 1, 5);
        wrongLine("lane 1;", 1, 5);
        wrongLine("lane `;", 1, 5);
    }

    @Holds(at = "Terms I", says = "R: a, b, c or d.")
    void noOtherOwnWordIsARegister() {
        for (String own : OWN_WORDS.split(" ")) {
            if (own.length() > 1) {
                wrongLine("lane " + own + ";", 1, 5);
                wrongLine("set a " + own + ";", 1, 6);
                wrongLine("add a 1 " + own + ";", 1, 8);
            }
        }
    }

    @Holds(at = "Terms I", says = "X: R or N.")
    void aValueIsARegisterOrANumber() {
        LaneWarps x = with("warps 1;set a 0;set a 999;set a a;set a d;");
        int[] due = {0, 999, -1, -4};
        for (int k = 0; k < 4; k++) {
            same("line(" + k + ", 2)", x.line(k, 2), due[k]);
        }
        wrongLine("set a e;", 1, 6);
        wrongLine("set a x;x:end;", 1, 6);
        wrongLine("set a if;", 1, 6);
        wrongLine("set a -1;", 1, 6);
        wrongLine("store x 1;", 1, 6);
        wrongLine("go x if x<1;x:end;", 1, 8);
    }

    @Holds(at = "Terms I", says = "SIGN: < = or > .")
    void aSignIsOneOfThree() {
        LaneWarps x = with("warps 1;x:go x if a<1;go x if a=1;go x if a>1;");
        for (int k = 0; k < 3; k++) {
            same("line(" + k + ", 5)", x.line(k, 5), k);
        }
        wrongLine("x:go x if a;1;", 1, 11);
        wrongLine("x:go x if a?1;", 1, 11);
        wrongLine("x:go x if a<=1;", 1, 12);
        wrongLine("x:go x if a==1;", 1, 12);
        wrongLine("x:go x if a 1;", 1, 12);
        wrongLine("x:go x if a!1;", 1, 11);
    }

    @Holds(at = "Terms I", says = "NAME: 1 to 6 letters,")
    void aNameHasOneToSixLetters() {
        fineLine("x:go x;", 1);
        fineLine("abcdef:go abcdef;", 1);
        fineLine("ABCXYZ:go ABCXYZ;", 1);
        wrongLine("abcdefg:end;", 1, 6);
        wrongLine("go abcdefg;", 1, 9);
    }

    @Holds(at = "Terms I", says = "NAME: 1 to 6 letters,")
    void namesAreLikeOnlyIfAllLettersAre() {
        fineLine("abcde:end;abcdef:end;abcdeg:end;", 3);
        LaneWarps x = with("warps 1;ab:end;abc:end;bc:end;go abc;go ab;go bc;");
        same("line(3, 4)", x.line(3, 4), 1);
        same("line(4, 4)", x.line(4, 4), 0);
        same("line(5, 4)", x.line(5, 4), 2);
        wrongLine("go abc;ab:end;abcd:end;", 3, 3);
    }

    @Holds(at = "Terms I", says = "no OWN WORD,")
    void noOwnWordIsTheNameOfALine() {
        for (String own : OWN_WORDS.split(" ")) {
            boolean begins = LINE_WORDS.contains(" " + own + " ") || own.equals("word") || own.equals("mode") || own.equals("order");
            wrongLine(own + ":end;", 1, begins ? own.length() : 0);
        }
    }

    @Holds(at = "Terms I", says = "where a NAME is asked, an OWN WORD so;")
    void noOwnWordIsTheNameThatGoTells() {
        for (String own : OWN_WORDS.split(" ")) {
            wrongLine("go " + own + ";", 1, 3);
            wrongLine("go  " + own + " if a<1;", 1, 4);
        }
    }

    @Holds(at = "Terms I", says = "OWN WORDS: warps, word, mode, stack, fair, order, age, turns, set, add, sub, mul, rem, lane, warp, load, store, get, put, swap, go, if, bar, yield, end, a, b, c, d.")
    void nearlyAnOwnWordIsAName() {
        for (String own : OWN_WORDS.split(" ")) {
            if (own.length() < 6) {
                fineLine(own + "x:go " + own + "x;", 1);
                fineLine("x" + own + ":go x" + own + ";", 1);
            }
        }
        fineLine("e:go e;", 1);
        fineLine("en:go en;", 1);
    }

    @Holds(at = "Terms I", says = "told ahead of one LINE alone;")
    void aNameIsToldOnce() {
        fineLine("x:end;y:end;", 2);
        wrongLine("x:end;x:end;", 3, 6);
        wrongLine("x:end;y:end; x:end;", 3, 13);
    }

    @Holds(at = "Terms I", says = "go may tell one that comes behind.")
    void goTellsOneAheadItselfOrBehind() {
        LaneWarps x = with("warps 1;x:end;go x;y:go y;go z;z:end;");
        same("line(1, 4)", x.line(1, 4), 0);
        same("line(2, 4)", x.line(2, 4), 2);
        same("line(3, 4)", x.line(3, 4), 4);
    }

    @Holds(at = "Terms I", says = "NUMBERS: 1 to 3 digits.")
    void aNumberHasOneToThreeDigits() {
        LaneWarps x = with("warps 001;set a 7;set a 77;set a 777;set a 007;set a 000;");
        int[] due = {7, 77, 777, 7, 0};
        for (int k = 0; k < due.length; k++) {
            same("line(" + k + ", 2)", x.line(k, 2), due[k]);
        }
        wrongLine("set a 7777;", 1, 9);
        wrongLine("set a 0007;", 1, 9);
        wrongLine("set a 77777777777;", 1, 9);
        wrong("warps 0001;end;", 1, 9);
    }

    @Holds(at = "Terms I", says = "Blanks (10, 32) are where one likes")
    void blanksAnywhere() {
        fine("warps 1;x:go x if a<1;end;", 2);
        fine("\n warps \n 1 \n ; \n x \n : \n go \n x \n if \n a \n < \n 1 \n ; \n end \n ; \n ", 2);
        fine("warps\n1;set\na\n1;", 1);
    }

    @Holds(at = "Terms I", says = "Blanks (10, 32) are where one likes")
    void noOtherByteIsABlank() {
        for (int sign : new int[] {0, 9, 11, 12, 13, 31, 33, 127, 128, 138, 160, 255}) {
            String other = String.valueOf((char) sign);
            wrong(other + "warps 1;end;", 1, 0);
            wrong("warps" + other + "1;end;", 1, 5);
            wrongLine("end;" + other, 1, 4);
            wrongLine("end" + other + ";", 1, 3);
        }
    }

    @Holds(at = "Terms I", says = "(words and numbers side by side need one)")
    void wordsAndNumbersNeedABlankBetween() {
        wrong("warps1;end;", 1, 5);
        wrongLine("word1 2;", 1, 4);
        wrongLine("set a1;", 1, 5);
        wrongLine("add a 1b;", 1, 7);
        wrongLine("add a b1;", 1, 7);
        wrongLine("x1:end;", 1, 1);
        wrongLine("go x1;", 1, 4);
        wrongLine("x:go x if1<2;", 1, 9);
        wrongLine("x:go x if 1<2c;", 1, 13);
    }

    @Holds(at = "Terms I", says = "(words and numbers side by side need one)")
    void signsNeedNoBlankAround() {
        fineLine("x:go x if a<b;y:go y if 1>2;z:go z if a=1;", 3);
        fineLine("x:end;", 1);
    }

    @Holds(at = "Terms I", says = "1 the first byte with which no such text goes on (words and numbers whole, at their first byte;")
    void aWordThatDoesNotFitIsAtItsFirstByte() {
        wrong("warpss 1;", 1, 0);
        wrong("Warps 1;", 1, 0);
        wrong("abcdefghij 1;", 1, 0);
        wrongLine("mode fairly;", 1, 5);
        wrongLine("mode stac;", 1, 5);
        wrongLine("order agetur;", 1, 6);
        wrongLine("set abcdefghij 1;", 1, 4);
        wrongLine("set a abcdefghij;", 1, 6);
        wrongLine("x:ends;", 1, 2);
        wrongLine("x:abcdefghij;", 1, 2);
        wrongLine("go x iff a<1;", 1, 5);
    }

    @Holds(at = "Terms I", says = "1 the first byte with which no such text goes on (words and numbers whole, at their first byte;")
    void aNumberThatDoesNotFitIsAtItsFirstByte() {
        wrongLine("123:end;", 1, 0);
        wrongLine("12345;", 1, 0);
        wrongLine("set 1234 a;", 1, 4);
        wrongLine("go 1234;", 1, 3);
        wrongLine("mode 12345;", 1, 5);
        wrongLine("set a 1 12345;", 1, 8);
    }

    @Holds(at = "Terms I", says = "a 7th letter of a NAME, a 4th digit of a number at itself;")
    void aSeventhLetterAFourthDigit() {
        wrongLine("abcdefghijkl:end;", 1, 6);
        wrongLine("abcdefg", 1, 6);
        wrongLine("go abcdefghijkl;", 1, 9);
        wrong("warps 1234567;end;", 1, 9);
        wrongLine("word 0640 1;", 1, 8);
        wrongLine("word 1 12345;", 1, 10);
        wrongLine("store 1234 1;", 1, 9);
        wrongLine("x:go x if 1<0000;", 1, 15);
    }

    @Holds(at = "Terms I", says = "at the text's length, if it ends too soon,")
    void aTextThatEndsTooSoon() {
        String[] pieces = {"warps", " ", "1", "\n", ";", " ", "x", " ", ":", " ", "go", " ", "x", " ", "if", " ", "a", " ", "<", " ", "1", " "};
        String text = "";
        for (String piece : pieces) {
            text += piece;
            wrong(text, 1, text.length());
        }
        fine(text + ";", 1);
    }

    @Holds(at = "Terms I", says = "at the text's length, if it ends too soon,")
    void whatWasCutOffTheTapeIsNotRead() {
        String[] texts = {"warps 1;set a 123;", "warps 1;x:go xyz;", "warps 1;end  ;", "warps 1;go x if a<12;"};
        int[] cuts = {16, 14, 12, 19};
        for (int k = 0; k < texts.length; k++) {
            LaneWarps x = new LaneWarps();
            Check.lay(x, texts[k]);
            x.end(cuts[k]);
            same("program() of " + texts[k], x.program(), NONE);
            same("fault(0)", x.fault(0), 1);
            same("fault(1)", x.fault(1), cuts[k]);
        }
        LaneWarps x = new LaneWarps();
        Check.lay(x, "warps 1;x:go x;xyz:end;");
        x.end(15);
        same("program()", x.program(), 1);
    }

    @Holds(at = "Terms I", says = "at the text's length, if it ends too soon,")
    void aFullTapeThatEndsTooSoon() {
        for (String last : new String[] {"set a 12", "set a 123", "abcdef", "x", "se", "end", "go abcdef", "go war", "set"}) {
            wrong("warps 1;" + " ".repeat(1592 - last.length()) + last, 1, 1600);
        }
    }

    @Holds(at = "Terms I", says = "or has no LINE);")
    void aTextWithoutALine() {
        wrong("", 1, 0);
        wrong("\n", 1, 1);
        wrong("warps 1;", 1, 8);
        wrong("warps 1; \n", 1, 10);
        wrongLine("word 1 2;mode fair;order turns;", 1, 31);
    }

    @Holds(at = "Terms I", says = "2 a number that can't be, at it;")
    void aNumberThatCantBe() {
        wrong("warps 0;end;", 2, 6);
        wrong("warps  5;end;", 2, 7);
        wrong("warps 000;end;", 2, 6);
        wrongLine("word 64 0;", 2, 5);
        wrongLine("word\n999 0;", 2, 5);
        fineLine("word 63 999;set a 999;", 1);
    }

    @Holds(at = "Terms I", says = "3 a NAME ahead of a LINE that is there already, at it;")
    void aNameThatIsThereAlready() {
        wrongLine("x:end;x:end;", 3, 6);
        wrongLine("abcdef:end;\nabcdef:end;", 3, 12);
        wrongLine("x:go x;x:go x;", 3, 7);
        fineLine("x:go x;X:go X;", 2);
    }

    @Holds(at = "Terms I", says = "a NAME of go that is none, the first one, if nothing else is wrong, at it;")
    void aNameThatIsNone() {
        wrongLine("go x;", 3, 3);
        wrongLine("x:go x;go y;go z;", 3, 10);
        wrongLine("go y if a<1;end;", 3, 3);
        wrongLine("go X;x:end;", 3, 3);
    }

    @Holds(at = "Terms I", says = "if nothing else is wrong, at it;")
    void aNameThatIsNoneWithSomethingElseWrongBehind() {
        wrongLine("go y;end", 1, 8);
        wrongLine("go y;word 64 1;", 2, 10);
        wrongLine("go y;x:end;x:end;", 3, 11);
        wrong("warps 1;go y;" + "end;".repeat(40), 5, 8 + 5 + 39 * 4);
        wrongLine("go y;!", 1, 5);
    }

    @Holds(at = "Terms I", says = "FAULTS, the first along the text:")
    void theFirstOfSeveral() {
        wrong("warps 5;!", 2, 6);
        wrong("warps !;word 64 1;", 1, 6);
        wrong("warps 0!", 2, 6);
        wrongLine("word 64 1234;", 2, 5);
        wrongLine("word 1234 1;word 64 1;", 1, 8);
        wrongLine("x:end;x!", 3, 6);
        wrongLine("x:end;x:word 64;", 3, 6);
        wrongLine("x!end;x:end;", 1, 1);
        wrong(lines(40) + "x!", 5, 168);
        wrong(lines(39) + "set e 1;end;", 1, 168);
        wrong("warps 5;" + lines(41).substring(8), 2, 6);
    }

    @Holds(at = "Terms I", says = "(A word at the begin of a STATEMENT that is no OWN WORD is the NAME of a LINE.)")
    void anUnknownWordAtTheBeginIsAName() {
        wrongLine("foo;", 1, 3);
        wrongLine("foo", 1, 3);
        wrongLine("foo a;", 1, 4);
        wrongLine("sets a 1;", 1, 5);
        wrongLine("Set a 1;", 1, 4);
        wrongLine("modefair;", 1, 6);
        wrongLine("foobarx;", 1, 6);
        wrongLine("foo 1;", 1, 4);
    }
}
