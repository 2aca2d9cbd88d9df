/** Terms, part 4 (the tape, scripts and their faults, acts, the image): each sentence that names a boundary. */
public final class EdgesOfTerms4Test {
    private static final Due due = new Due("EdgesOfTerms4Test");
    private static final Edges edges = new Edges(due);
    private static final Edges.Run RICH = Edges::rich;
    /** Each clause as it stands, with numbers of one digit and of more. */
    private static final String[] CLAUSES = {"fetch 0;", "read 0 1;", "write 0 12 99999;", "split 0 500;", "middle 0;",
        "join 0;", "move 0 1;", "step 0 100;", "fail 0 99;", "down 5;", "up 5;", "recover 11;", "give 0;", "age;", "chunk 16;"};

    public static void main(String[] args) {
        tapeOf400();
        bytesOfTheTape();
        emptyScripts();
        eachClauseIsDone();
        untilOneIsRefused();
        refusedReads();
        refusedWrites();
        eachClauseIsRefused();
        wordsAsTheyStand();
        numbersAsTheyStand();
        blanksAheadOfAll();
        noOtherBlanks();
        endWhereSomethingIsDue();
        whatWasTakenFromTheTape();
        whatCannotStandThere();
        numberAbove99999();
        theFirstByItsPlace();
        fortyClauses();
        theFortyFirstClause();
        nothingIsDoneWithAFault();
        due.end();
    }

    /** Terms 4: "THE TAPE, 400 bytes at most". */
    private static void tapeOf400() {
        SpanMap x = new SpanMap();
        due.is("look(8) at first", x.look(8), 0);
        for (int i = 1; i <= 20; i++) {
            due.is("feed", x.feed(0x6167653b, 0x6167653b, 0x20202020, 0x20202020, 0x20202020), i * 20);
        }
        due.is("feed, 420 it would have", x.feed(0, 0, 0, 0, 0), -1);
        due.is("look(8)", x.look(8), 400);
        due.is("all 400 are a script", x.script(), 40);
        due.is("look(8)", x.look(8), 0);
        int[] had = {379, 380, 381, 399, 400};
        for (int n : had) {
            Edges.Run tape = y -> {
                for (int i = 0; i < 20; i++) {
                    y.feed(0x20202020, 0x20202020, 0x20202020, 0x20202020, 0x20202020);
                }
                y.end(n);
            };
            if (n <= 380) {
                due.is("feed behind " + n, Edges.made(tape).feed(0, 0, 0, 0, 0), n + 20);
            } else {
                edges.refused(tape, -1, "feed behind " + n, y -> y.feed(1, 2, 3, 4, 5));
            }
        }
    }

    /** Terms 4 and promise 18: bytes 0 .. 255, "of each number the highest first", behind those that are there. */
    private static void bytesOfTheTape() {
        SpanMap x = new SpanMap();
        // "chun" "k 7;" "age;" and two numbers of blanks
        due.is("feed", x.feed(0x6368756e, 0x6b20373b, 0x6167653b, 0x20202020, 0x20202020), 20);
        due.is("feed", x.feed(0x6368756e, 0x6b20393b, 0x20202020, 0x20202020, 0x20202020), 40);
        due.is("script()", x.script(), 3);
        due.is("look(6)", x.look(6), 9);
        int[] strange = {0, 1, 31, 33, 58, 96, 123, 127, 128, 160, 225, 255};
        for (int sign : strange) {
            x.feed(0x6167653b, sign << 24 | 0x202020, -1, Edges.LEAST, Edges.GREATEST);
            x.end(8);
            due.is("script() with a sign " + sign, x.script(), -1);
            due.is("fault(0)", x.fault(0), 1);
            due.is("fault(1)", x.fault(1), 4);
        }
        x.feed(-1, -1, -1, -1, -1);
        due.is("look(8)", x.look(8), 20);
        due.is("script()", x.script(), -1);
        due.is("fault(1)", x.fault(1), 0);
    }

    /** Terms 4: "{ clause ";" }": none at all is a SCRIPT, blanks alone, too; it is no ACT. */
    private static void emptyScripts() {
        String[] texts = {"", " ", "                    ", " ".repeat(400)};
        for (String text : texts) {
            SpanMap x = new SpanMap();
            x.age();
            due.is("script()", Due.run(x, text), 0);
            due.is("fault(0)", x.fault(0), 0);
            due.is("fault(1)", x.fault(1), -1);
            due.is("fault(2)", x.fault(2), -1);
            due.is("look(7)", x.look(7), 1);
        }
    }

    /** Terms 4: each clause "as the call of that name": the same picture, but for what is an ACT or forgets them. */
    private static void eachClauseIsDone() {
        SpanMap x = new SpanMap();
        due.is("fetch", Due.run(x, "fetch 5;"), 1);
        due.is("clientOf(5, 0)", x.clientOf(5, 0), 1);
        due.is("read, write", Due.run(x, "write 5 999 99999;read 5 999;read 5 0;"), 3);
        due.is("stored(0, 999)", x.stored(0, 999), 99999);
        due.is("weight(0)", x.weight(0), 4);
        due.is("split, join, middle", Due.run(x, "split 0 1;join 0;split 0 999;fetch 5;read 5 0;middle 0;"), 6);
        due.is("look(1)", x.look(1), 3);
        due.is("span(1, 0)", x.span(1, 0), 1);
        due.is("look(0)", x.look(0), 5);
        due.is("moves", Due.run(x, "move 0 5;fail 0 1;step 0 100;down 5;up 5;recover 0;"), 6);
        due.is("moveOf(0, 0)", x.moveOf(0, 0), 6);
        due.is("moveOf(0, 8)", x.moveOf(0, 8), 3);
        due.is("moves", Due.run(x, "move 0 5;give 1;chunk 16;age;"), 4);
        due.is("moveOf(1, 0)", x.moveOf(1, 0), 6);
        due.is("look(6)", x.look(6), 16);
        due.is("look(7): one ACT each", x.look(7), 5);
    }

    /** Terms 4: "they are done one behind the other until one is refused": those ahead of it stay done. */
    private static void untilOneIsRefused() {
        for (int at = 0; at <= 3; at++) {
            StringBuilder text = new StringBuilder();
            for (int i = 0; i < 4; i++) {
                text.append(i == at ? "up 0;" : "split " + i + " " + (i + 1) + ";");
            }
            SpanMap x = new SpanMap();
            due.is("refused at " + at, Due.run(x, text.toString()), at);
            due.is("fault(2)", x.fault(2), at);
            due.is("fault(0)", x.fault(0), 0);
            due.is("fault(1)", x.fault(1), -1);
            due.is("look(0)", x.look(0), at + 1);
            due.is("look(7)", x.look(7), at == 0 ? 0 : 1);
        }
        StringBuilder forty = new StringBuilder("age;".repeat(39));
        SpanMap x = new SpanMap();
        due.is("the 40th is refused", Due.run(x, forty + "up 0;"), 39);
        due.is("fault(2)", x.fault(2), 39);
    }

    /** Terms 4: refused: "read, write: an ASKING that is not 0": a read of 1, 2, 3, or one that can't be; the value 0 is done. */
    private static void refusedReads() {
        SpanMap x = new SpanMap();
        due.is("no cache", Due.run(x, "read 0 0;age;"), 0);
        due.is("count(2)", x.count(2), 1);
        x.fetch(0);
        due.is("no value", Due.run(x, "read 0 0;age;"), 2);
        due.is("no such key", Due.run(x, "read 0 999;read 0 1000;age;"), 1);
        due.is("no such client", Due.run(x, "read 5 0;age;"), 0);
        due.is("no such client", Due.run(x, "read 6 0;age;"), 0);
        due.is("askings", x.clientOf(0, 2), 3);
        x.down(0);
        due.is("down", Due.run(x, "read 0 0;age;"), 0);
        due.is("count(3)", x.count(3), 1);
        x.up(0);
        x.split(0, 500);
        due.is("stale", Due.run(x, "read 0 0;age;"), 0);
        due.is("count(4)", x.count(4), 1);
        due.is("fault(2)", x.fault(2), 0);
    }

    /** Terms 4: refused: a write answered 1, 2, 3, 4, or one that can't be. */
    private static void refusedWrites() {
        SpanMap x = new SpanMap();
        due.is("no cache", Due.run(x, "write 0 0 1;age;"), 0);
        x.fetch(0);
        due.is("done", Due.run(x, "write 0 0 1;age;"), 2);
        due.is("value 0", Due.run(x, "write 0 0 0;age;"), 0);
        due.is("key 1000", Due.run(x, "write 0 1000 1;age;"), 0);
        due.is("client 6", Due.run(x, "write 6 0 1;age;"), 0);
        due.is("askings", x.clientOf(0, 2), 2);
        x.down(0);
        due.is("down", Due.run(x, "write 0 0 1;age;"), 0);
        x.up(0);
        x.split(0, 500);
        due.is("stale", Due.run(x, "write 0 0 1;age;"), 0);
        due.is("it is not insisted on", x.clientOf(0, 0), 1);
        x.fetch(0);
        x.move(0, 1);
        x.step(0, 2);
        due.is("frozen", Due.run(x, "write 0 0 1;age;"), 0);
        for (int what = 2; what <= 5; what++) {
            due.is("count(" + what + ")", x.count(what), 1);
        }
    }

    /** Terms 4: refused: "answers NONE, false": at the edges of what each call allows, just inside and just outside. */
    private static void eachClauseIsRefused() {
        String[][] pairs = {{"fetch 5;", "fetch 6;"}, {"read 0 999;", "read 0 1000;"}, {"write 0 0 1;", "write 0 0 0;"},
            {"split 0 1;", "split 0 0;"}, {"split 0 999;", "split 0 1000;"}, {"middle 0;", "middle 1;"},
            {"split 0 1;join 0;", "join 0;"}, {"move 0 5;", "move 0 6;"}, {"move 0 1;", "move 0 0;"},
            {"move 0 1;step 0 1;", "move 0 1;step 0 0;"}, {"move 0 1;step 0 100;", "move 0 1;step 0 101;"},
            {"move 0 1;fail 0 99;", "move 0 1;fail 0 100;"}, {"move 0 1;fail 0 0;", "fail 0 0;"},
            {"down 5;", "down 6;"}, {"down 5;up 5;", "up 5;"}, {"move 0 1;fail 0 1;step 0 1;recover 0;", "move 0 1;recover 0;"},
            {"move 0 1;give 0;", "move 0 1;give 1;"}, {"chunk 1;", "chunk 0;"}, {"chunk 16;", "chunk 17;"}};
        for (String[] pair : pairs) {
            for (int which = 0; which < 2; which++) {
                SpanMap x = new SpanMap();
                x.fetch(0);
                x.write(0, 500, 1);
                int clauses = pair[which].split(";").length;
                due.is(pair[which], Due.run(x, pair[which]), which == 0 ? clauses : clauses - 1);
                due.is("fault(2) of " + pair[which], x.fault(2), which == 0 ? -1 : clauses - 1);
                due.is("fault(0) of " + pair[which], x.fault(0), 0);
            }
        }
    }

    private static void fault(String text, int fault, int place) {
        Edges.Run typed = x -> {
            x.fetch(1);
            x.age();
            Due.type(x, text);
        };
        SpanMap x = Edges.made(typed);
        String name = "'" + (text.length() > 40 ? text.substring(0, 40) + ".." : text) + "'";
        due.is("script() of " + name, x.script() == -1, fault != 0);
        due.is("fault(0) of " + name, x.fault(0), fault);
        due.is("fault(1) of " + name, x.fault(1), place);
        if (fault != 0) {
            due.is("fault(2) of " + name, x.fault(2), -1);
            due.is("no act of " + name, x.look(7), 1);
            due.is("the tape is empty behind " + name, x.look(8), 0);
        }
    }

    /** Terms 4: "Words: small letters .. as many as stand there". */
    private static void wordsAsTheyStand() {
        fault("age;", 0, -1);
        fault("ages;", 1, 0);
        fault("ag;", 1, 0);
        fault("ageage;", 1, 0);
        fault("agefetch 0;", 1, 0);
        fault("Age;", 1, 0);
        fault("aGe;", 1, 0);
        fault("AGE;", 1, 0);
        fault("a ge;", 1, 0);
        fault("age;x;", 1, 4);
        fault("insist 0 0 1;", 1, 0);
        fault("scan 0 0 1;", 1, 0);
        fault("undo;", 1, 0);
        fault("image;", 1, 0);
        fault("script;", 1, 0);
        fault("a;", 1, 0);
        fault("z;", 1, 0);
        fault("agez;", 1, 0);
        fault("zage;", 1, 0);
        fault(" ".repeat(396) + "fetc", 1, 396);
    }

    /** Terms 4: "numbers: digits, each as many as stand there". */
    private static void numbersAsTheyStand() {
        fault("fetch 0000000000000000000000000005;", 0, -1);
        fault("fetch 00000;", 0, -1);
        fault("fetch0;", 0, -1);
        fault("read0 1;", 0, -1);
        fault("read 01;", 1, 7);
        fault("read 0 1 ;", 0, -1);
        fault("fetch 1 0;", 1, 8);
        fault("fetch 1a;", 1, 7);
        fault("fetch a1;", 1, 6);
        fault("fetch +1;", 1, 6);
        fault("fetch -1;", 1, 6);
        fault("fetch 1.0;", 1, 7);
        fault("fetch 0x1;", 1, 7);
        fault("fetch /;", 1, 6);
        fault("fetch :;", 1, 6);
        fault("fetch 9;", 0, -1);
        SpanMap x = new SpanMap();
        x.fetch(0);
        due.is("zeros ahead", Due.run(x, "write 000 000000000000999 00000099999;"), 1);
        due.is("stored(0, 999)", x.stored(0, 999), 99999);
    }

    /** Terms 4: "blanks (32) ahead of all and at the end". */
    private static void blanksAheadOfAll() {
        fault(" age;", 0, -1);
        fault("age ;", 0, -1);
        fault("age; ", 0, -1);
        fault("  age  ;  age  ;  ", 0, -1);
        fault("read   0   1   ;   ", 0, -1);
        fault(" ".repeat(396) + "age;", 0, -1);
        fault("age;" + " ".repeat(396), 0, -1);
        fault("age" + " ".repeat(396) + ";", 0, -1);
        fault("age;" + " ".repeat(395) + ";", 1, 399);
        fault("age" + " ".repeat(397), 1, 400);
        fault(" ".repeat(399) + ";", 1, 399);
        fault(" ".repeat(397) + "age", 1, 400);
    }

    /** Terms 4: "blanks (32)": no other sign is one. */
    private static void noOtherBlanks() {
        fault("\tage;", 1, 0);
        fault("age\t;", 1, 3);
        fault("age;\n", 1, 4);
        fault("age;\r", 1, 4);
        fault("age;" + (char) 160, 1, 4);
        fault("age;" + (char) 0, 1, 4);
        fault("fetch\t0;", 1, 5);
        fault("fetch 0" + (char) 31 + ";", 1, 7);
        fault("fetch 0" + (char) 33 + ";", 1, 7);
    }

    /** Terms 4: FAULTS: "(from 0; the end: the text's length)": a text that ends where something is due. */
    private static void endWhereSomethingIsDue() {
        for (String clause : CLAUSES) {
            int word = clause.indexOf(' ') < 0 ? clause.indexOf(';') : clause.indexOf(' ');
            for (int n = 1; n < clause.length(); n++) {
                fault(clause.substring(0, n), 1, n < word ? 0 : n);
                fault("age; " + clause.substring(0, n), 1, 5 + (n < word ? 0 : n));
                fault(clause.substring(0, n) + "   ", 1, n < word ? 0 : n + 3);
            }
            fault(clause, 0, -1);
            fault("age;" + clause + "age;", 0, -1);
        }
        fault(";".repeat(400), 1, 0);
        fault(" ".repeat(393) + "fetch 5", 1, 400);
        fault(" ".repeat(395) + "fetch", 1, 400);
        fault(" ".repeat(392) + "fetch 5;", 0, -1);
    }

    /** Promise 19: what end() took from THE TAPE is no part of the text. */
    private static void whatWasTakenFromTheTape() {
        String[] texts = {"fetch 05;", "fetch;", "age;age;", "fetch 0 ;"};
        int[] ends = {7, 3, 3, 8};
        int[] places = {7, 0, 3, 8};
        for (int i = 0; i < texts.length; i++) {
            SpanMap x = new SpanMap();
            Due.type(x, texts[i]);
            x.end(ends[i]);
            due.is("script() of the first " + ends[i] + " of '" + texts[i] + "'", x.script(), -1);
            due.is("fault(0)", x.fault(0), 1);
            due.is("fault(1)", x.fault(1), places[i]);
        }
    }

    /** Terms 4: FAULT "1 what can't stand there": each clause with one number fewer, one more, a word, a sign. */
    private static void whatCannotStandThere() {
        for (String clause : CLAUSES) {
            int end = clause.length() - 1;
            fault(clause.substring(0, end) + " 1;", 1, end + 1);
            fault(clause.substring(0, end) + " age;", 1, end + 1);
            fault(clause.substring(0, end) + ",", 1, end);
            fault(clause + ";", 1, end + 1);
            int last = clause.lastIndexOf(' ');
            if (last >= 0) {
                fault(clause.substring(0, last) + ";", 1, last);
                fault(clause.substring(0, last) + " ;", 1, last + 1);
                fault(clause.substring(0, last) + " age;", 1, last + 1);
            }
        }
        fault("5;", 1, 0);
        fault("0 fetch;", 1, 0);
        fault(";", 1, 0);
        fault("age;;age;", 1, 4);
        fault("age age;", 1, 4);
    }

    /** Terms 4: FAULT "2 a number above 99999 (at it)", at each number's place. */
    private static void numberAbove99999() {
        String[] numbers = {"100000", "100001", "999999", "0100000", "65536000", "2147483647", "2147483648", "4294967296",
            "4294967301", "9223372036854775808", "18446744073709551616", "1" + "0".repeat(60), "9".repeat(300)};
        for (String number : numbers) {
            fault("fetch " + number + ";", 2, 6);
            fault("fetch" + number + ";", 2, 5);
            fault("write 0 0   " + number + ";", 2, 12);
            fault("write 0 " + number + " 0;", 2, 8);
            fault("write " + number + " 0 0;", 2, 6);
            fault("fetch " + number, 2, 6);
            fault("fetch " + number + "x;", 2, 6);
        }
        String[] fit = {"0", "1", "99998", "99999", "099999", "00000000000000099999"};
        for (String number : fit) {
            fault("write " + number + " " + number + " " + number + ";", 0, -1);
        }
    }

    /** Terms 4: FAULTS, "the first by its place". */
    private static void theFirstByItsPlace() {
        fault("fetch 100000 x;", 2, 6);
        fault("fetch x 100000;", 1, 6);
        fault("fetch 0 100000;", 1, 8);
        fault("age;foo;fetch 100000;", 1, 4);
        fault("age;fetch 100000;foo;", 2, 10);
        fault("write 100000 100000 100000;", 2, 6);
        fault("write 0 100000", 2, 8);
        fault("foo" + "age;".repeat(41), 1, 0);
        fault("fetch 100000;" + "age;".repeat(41), 2, 6);
        fault("age;".repeat(41) + "foo;", 3, 160);
        fault("age;".repeat(39) + "foo;age;", 1, 156);
    }

    /** Terms 4: a SCRIPT of 40 clauses is none too long. */
    private static void fortyClauses() {
        fault("age;".repeat(39), 0, -1);
        fault("age;".repeat(40), 0, -1);
        fault("age;".repeat(40) + "   ", 0, -1);
        SpanMap x = new SpanMap();
        due.is("39", Due.run(x, "age;".repeat(39)), 39);
        due.is("40", Due.run(x, "age;".repeat(40)), 40);
        due.is("40 that split and join", Due.run(x, "split0 1;join0;".repeat(20)), 40);
        due.is("look(0)", x.look(0), 41);
        due.is("the 39th of 40 is refused", Due.run(x, "fetch0;" + "write0 1 1;".repeat(30) + "age;".repeat(7) + "up0;age;"), 38);
        due.is("fault(2)", x.fault(2), 38);
        due.is("count(1)", x.count(1), 30);
    }

    /** Terms 4: FAULT "3 a 41st clause (at its word)". */
    private static void theFortyFirstClause() {
        fault("age;".repeat(41), 3, 160);
        fault("age;".repeat(40) + "   age;", 3, 163);
        fault("age;".repeat(40) + "fetch 100000;", 3, 160);
        fault("age;".repeat(40) + "fetch", 3, 160);
        fault("age;".repeat(40) + "fetch x;", 3, 160);
        fault("age;".repeat(100), 3, 160);
        fault("age;".repeat(40) + ";", 1, 160);
        fault("age;".repeat(40) + "5;", 1, 160);
        fault("age;".repeat(40) + "  ,", 1, 162);
    }

    /** Terms 4: "FAULTS (nothing is done then)"; promise 20: NONE, THE TAPE is empty then. */
    private static void nothingIsDoneWithAFault() {
        Edges.Run cleared = x -> {
            Edges.rich(x);
            x.script();
        };
        due.is("fault(0), the text of rich() ends in a clause", Edges.made(cleared).fault(0), 1);
        due.is("fault(1)", Edges.made(cleared).fault(1), 13);
        nothingIsDone(cleared, "split 200 210;age;fetch 1;foo;", "fault(1)", 26);
        nothingIsDone(cleared, "down 1;chunk 100000;", "fault(0)", 2);
        nothingIsDone(cleared, "chunk 5;up 5;" + "age;".repeat(39), "fault(0)", 3, "fault(1)", 165);
        nothingIsDone(cleared, "fetch 0", "fault(1)", 7);
    }

    private static void nothingIsDone(Edges.Run run, String text, Object... rows) {
        edges.countsOnly(run, -1, "script() of '" + text + "'", x -> {
            Due.type(x, text);
            return x.script();
        }, rows);
    }
}
