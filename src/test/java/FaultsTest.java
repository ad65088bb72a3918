/** Texts with the FAULT and the place that are due: promises 4 and 5, and what the terms say of texts. */
public final class FaultsTest {
    private final Check check = new Check();

    public static void main(String[] args) {
        FaultsTest test = new FaultsTest();
        test.fineTexts();
        test.wordsAndSigns();
        test.endsTooSoon();
        test.numbers();
        test.names();
        test.sideBySide();
        test.tooMany();
        test.firstAlongTheText();
        test.bytes();
        test.check.close("FaultsTest");
    }

    private void fine(String text, int lines) {
        LaneWarps x = new LaneWarps();
        check.about(text);
        check.same("program()", Check.tell(x, text), lines);
        check.same("fault(0)", x.fault(0), 0);
        check.same("fault(1)", x.fault(1), LaneWarps.NONE);
        check.same("status(1)", x.status(1), 0);
    }

    private void wrong(String text, int fault, int place) {
        LaneWarps x = new LaneWarps();
        check.about(text);
        check.same("program()", Check.tell(x, text), LaneWarps.NONE);
        check.same("fault(0)", x.fault(0), fault);
        check.same("fault(1)", x.fault(1), place);
        check.same("status(1)", x.status(1), 1);
        check.same("has(0)", x.has(0), 0);
    }

    /** Behind "warps 1;", whose length is 8: places count from there on. */
    private void wrongLine(String line, int fault, int place) {
        wrong("warps 1;" + line, fault, 8 + place);
    }

    private void fineTexts() {
        fine("warps 1;end;", 1);
        fine("warps 4;end;", 1);
        fine("warps 004;end;", 1);
        fine("\n \nwarps\n1\n;\nend\n;\n", 1);
        fine("warps 1;x:end;", 1);
        fine("warps 1;set a 999;set b a;add c 1 b;sub d a 0;mul a a a;rem b c 7;", 6);
        fine("warps 1;lane a;warp d;load b 5;load b c;store a 1;store 1 a;get a 0;put 3 4;swap d d;", 9);
        fine("warps 1;go y if a<1;y:go y if 1=b;go y if a>b;go y;bar;yield;end;", 7);
        fine("warps 2;word 0 0;word 63 999;word 63 1;mode fair;mode stack;order turns;order age;bar;", 1);
        fine("warps 1;end;word 1 2;mode fair;end;order age;", 2);
        fine("warps 1;abcdef:go abcdef;", 1);
        fine("warps 1;go later;later:end;", 2);
        fine("warps 1;ab:end;abc:end;go abc;go ab;", 4);
        fine("warps 1;X:end;x:end;Set:go X;", 3);
    }

    private void wordsAndSigns() {
        wrong("end;", 1, 0);
        wrong("warp 1;end;", 1, 0);
        wrong("abcdefgh 1;", 1, 0);
        wrong("1;", 1, 0);
        wrong(" ;", 1, 1);
        wrong("warps a;", 1, 6);
        wrong("warps 1 1;", 1, 8);
        wrong("warps 1:end;", 1, 7);
        wrong("warps 1;;end;", 1, 8);
        wrongLine("warps 1;", 1, 0);
        wrongLine("end;warps 1;", 1, 4);
        wrongLine("stack;", 1, 0);
        wrongLine("a:end;", 1, 0);
        wrongLine("if:end;", 1, 0);
        wrongLine("end:end;", 1, 3);
        wrongLine("7 end;", 1, 0);
        wrongLine("mode age;", 1, 5);
        wrongLine("mode Fair;", 1, 5);
        wrongLine("mode fairly;", 1, 5);
        wrongLine("order fair;", 1, 6);
        wrongLine("order 1;", 1, 6);
        wrongLine("word a 1;", 1, 5);
        wrongLine("word 1 a;", 1, 7);
        wrongLine("word 1;", 1, 6);
        wrongLine("set a a a;", 1, 8);
        wrongLine("set 5 a;", 1, 4);
        wrongLine("set e 1;", 1, 4);
        wrongLine("set a e;", 1, 6);
        wrongLine("set a abcdefgh;", 1, 6);
        wrongLine("set a -1;", 1, 6);
        wrongLine("add a b;", 1, 7);
        wrongLine("lane 1;", 1, 5);
        wrongLine("lane a b;", 1, 7);
        wrongLine("load 1 a;", 1, 5);
        wrongLine("store 1;", 1, 7);
        wrongLine("put a b c;", 1, 8);
        wrongLine("swap a;", 1, 6);
        wrongLine("bar a;", 1, 4);
        wrongLine("end end;", 1, 4);
        wrongLine("go;", 1, 2);
        wrongLine("go 1;", 1, 3);
        wrongLine("go a;", 1, 3);
        wrongLine("go if;", 1, 3);
        wrongLine("go x x;", 1, 5);
        wrongLine("go x if;", 1, 7);
        wrongLine("go x if a<;", 1, 10);
        wrongLine("go x if a<<1;", 1, 10);
        wrongLine("go x if a 1;", 1, 10);
        wrongLine("go x if a b;", 1, 10);
        wrongLine("go x if a;", 1, 9);
        wrongLine("go x if a?1;", 1, 9);
        wrongLine("go x if a;1;", 1, 9);
        wrongLine("go x if x<1;", 1, 8);
        wrongLine("go x if a<1 if;", 1, 12);
        wrongLine("x;", 1, 1);
        wrongLine("x 1;", 1, 2);
        wrongLine("x:;", 1, 2);
        wrongLine("x:y:end;", 1, 2);
        wrongLine("x:mode fair;", 1, 2);
        wrongLine("x:abcdefgh;", 1, 2);
        wrongLine("x:5;", 1, 2);
    }

    private void endsTooSoon() {
        wrong("", 1, 0);
        wrong(" \n ", 1, 3);
        wrong("warps", 1, 5);
        wrong("warps ", 1, 6);
        wrong("war", 1, 0);
        wrong("warps 1", 1, 7);
        wrong("warps 1 \n", 1, 9);
        wrong("warps 1;", 1, 8);
        wrong("warps 1;  ", 1, 10);
        wrong("warps 1;word 1 2;mode fair; ", 1, 28);
        wrongLine("en", 1, 2);
        wrongLine("end", 1, 3);
        wrongLine("end ", 1, 4);
        wrongLine("set", 1, 3);
        wrongLine("set a ", 1, 6);
        wrongLine("add a 1", 1, 7);
        wrongLine("x", 1, 1);
        wrongLine("x:", 1, 2);
        wrongLine("go", 1, 2);
        wrongLine("go x", 1, 4);
        wrongLine("go x if", 1, 7);
        wrongLine("go x if 1", 1, 9);
        wrongLine("go x if 1 =", 1, 11);
        wrongLine("go x if 1 = 2", 1, 13);
    }

    private void numbers() {
        wrong("warps 0;end;", 2, 6);
        wrong("warps 5;end;", 2, 6);
        wrong("warps 999;end;", 2, 6);
        wrong("warps 000;end;", 2, 6);
        wrong("warps 0001;end;", 1, 9);
        wrongLine("word 64 1;", 2, 5);
        wrongLine("word 999;", 2, 5);
        wrongLine("word 6400 1;", 1, 8);
        wrongLine("word 1 1000;", 1, 10);
        wrongLine("set a 1000;", 1, 9);
        wrongLine("set a 0000;", 1, 9);
        wrongLine("set 1000 a;", 1, 4);
        wrongLine("go x if 1000 = 1;", 1, 11);
        wrongLine("go x if 1 = 1000;", 1, 15);
        fine("warps 1;word 63 999;end;", 1);
    }

    private void names() {
        wrongLine("abcdefg:end;", 1, 6);
        wrongLine("abcdefghij;", 1, 6);
        wrongLine("go abcdefg;", 1, 9);
        wrongLine("x:end;x:end;", 3, 6);
        wrongLine("x:end;y:end;x end;", 3, 12);
        wrongLine("x:end; x", 3, 7);
        wrongLine("go x;", 3, 3);
        wrongLine("go x;go y;end;", 3, 3);
        wrongLine("x:end;go x;go y;go z;", 3, 14);
        wrongLine("go x;end", 1, 8);
        wrongLine("go x;y:end;y:end;", 3, 11);
        wrongLine("go X;x:end;", 3, 3);
        wrongLine("go ab;abc:end;", 3, 3);
        wrongLine("go abc;ab:end;", 3, 3);
    }

    private void sideBySide() {
        wrong("warps1;end;", 1, 5);
        wrongLine("set a1;", 1, 5);
        wrongLine("add a 1b;", 1, 7);
        wrongLine("set a 1b;", 1, 7);
        wrongLine("word1 2;", 1, 4);
        wrongLine("x1:end;", 1, 1);
        wrongLine("go x1;", 1, 4);
        wrongLine("go x if1<2;", 1, 7);
        wrongLine("go x if 1<2b;", 1, 11);
        fine("warps 1;x:go x if a<b;", 1);
        fine("warps 1;x:go x if 1<2;", 1);
    }

    private static String many(String piece, int times) {
        StringBuilder s = new StringBuilder();
        for (int k = 0; k < times; k++) {
            s.append(piece);
        }
        return s.toString();
    }

    private void tooMany() {
        String forty = "warps 1;" + many("end;", 40);
        fine(forty, 40);
        wrong(forty + "end;", 5, 168);
        wrong(forty + "\n set e;", 5, 170);
        wrong(forty + "x:end;", 5, 168);
        wrong(forty + "abcdefgh", 5, 168);
        wrong(forty + "if", 1, 168);
        wrong(forty + "!", 1, 168);
        fine(forty + "mode fair;", 40);
        wrong("warps 1;x:end;" + many("end;", 39) + "x:end;", 5, 170);
        String eighty = forty + many("word 1 1;", 39);
        fine(eighty, 40);
        fine(eighty + "  \n", 40);
        wrong(eighty + "mode fair;", 5, 519);
        wrong(eighty + " !", 5, 520);
        wrong(eighty + ";", 5, 519);
        wrong(eighty + "end;", 5, 519);
        wrong("warps 1;" + many("word 1 1;", 79), 1, 719);
        wrong("warps 1;" + many("word 1 1;", 79) + "end;", 5, 719);
        fine("warps 1;" + many("word 1 1;", 78) + "end;", 1);
    }

    private void firstAlongTheText() {
        wrong("warps 9;!", 2, 6);
        wrong("warps 9!", 2, 6);
        wrong("warps 1!word 64", 1, 7);
        wrongLine("word 64!", 2, 5);
        wrongLine("x:end;x!", 3, 6);
        wrongLine("go y;x:end;x:end;", 3, 11);
        wrongLine("go y;word 64 1;", 2, 10);
    }

    private void bytes() {
        wrongLine("\tend;", 1, 0);
        wrongLine("end\r;", 1, 3);
        wrongLine("end;\u0000", 1, 4);
        wrongLine("\u00e9nd;", 1, 0);
        wrongLine("e\u00e9d:end;", 1, 1);
        wrongLine("[:end;", 1, 0);
        wrongLine("`:end;", 1, 0);
        wrongLine("{:end;", 1, 0);
        wrongLine("@:end;", 1, 0);
        wrongLine("set a /;", 1, 6);
        wrongLine("set a :;", 1, 6);
        fine("warps 1;aZ:end;zA:end;", 2);
    }
}
