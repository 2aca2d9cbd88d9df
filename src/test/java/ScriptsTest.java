/** Promises 18 to 21: the tape, scripts and their faults. */
public final class ScriptsTest {
    private static final Due due = new Due("ScriptsTest");

    public static void main(String[] args) {
        feeding();
        eachClause();
        refusals();
        blanksAndDigits();
        faultsByPlace();
        theFortyFirst();
        signsAbove127();
        due.end();
    }

    private static void feeding() {
        SpanMap x = new SpanMap();
        due.is("end(0)", x.end(0), true);
        due.is("end(1)", x.end(1), false);
        due.is("end(-1)", x.end(-1), false);
        for (int i = 1; i <= 20; i++) {
            due.is("feed", x.feed(0x20202020, 0x20202020, 0x20202020, 0x20202020, 0x20202020), i * 20);
        }
        due.is("feed, 420", x.feed(0, 0, 0, 0, 0), -1);
        due.is("look(8)", x.look(8), 400);
        due.is("end(401)", x.end(401), false);
        due.is("end(400)", x.end(400), true);
        due.is("end(381)", x.end(381), true);
        due.is("feed, 401", x.feed(0, 0, 0, 0, 0), -1);
        due.is("look(8)", x.look(8), 381);
        due.is("end(380)", x.end(380), true);
        due.is("feed, 400", x.feed(0x61676520, 0x3b202020, 0x20202020, 0x20202020, 0x20202020), 400);
        due.is("script", x.script(), 1);
        due.is("tape is empty", x.look(8), 0);
        // "age;" is 0x6167653b: of each number the highest byte is first.
        due.is("feed", x.feed(0x6167653b, 0x6167653b, 0x2061673b, 0x20202020, 0x20202020), 20);
        due.is("end(8)", x.end(8), true);
        due.is("script", x.script(), 2);
        due.is("an empty script", x.script(), 0);
        due.is("fault(0)", x.fault(0), 0);
    }

    private static void eachClause() {
        SpanMap x = new SpanMap();
        due.is("script", Due.run(x, "fetch 0;write 0 10 5;write 0 20 6;read 0 10;split 0 15;middle 0;join 0;"), 7);
        due.is("fault(0)", x.fault(0), 0);
        due.is("fault(1)", x.fault(1), -1);
        due.is("fault(2)", x.fault(2), -1);
        due.is("epoch", x.look(0), 4);
        due.is("spans", x.look(1), 2);
        due.is("clientOf(0, 0)", x.clientOf(0, 0), 1);
        due.is("weight", x.weight(0), 3);
        due.is("script", Due.run(x, "move 0 3;fail 0 2;step 0 5;down 3;up 3;recover 0;chunk 7;"), 7);
        due.is("chunk", x.look(6), 7);
        due.is("stage", x.moveOf(0, 0), 6);
        due.is("steps", x.moveOf(0, 9), 2);
        due.is("script", Due.run(x, "move 15 2;step 1 1;give 1;age;"), 4);
        due.is("stage", x.moveOf(1, 0), 6);
        due.is("weight", x.weight(0), 1);
        due.is("one ACT a script", x.look(7), 3);
    }

    private static void refusals() {
        String[] refused = {
            "fetch 6;", "read 1 0;", "read 6 0;", "read 0 1000;", "write 1 0 1;", "write 0 0 0;", "split 0 0;",
            "middle 0;", "join 0;", "move 0 0;", "step 0 1;", "fail 0 1;", "down 6;", "up 0;", "recover 0;",
            "give 0;", "chunk 0;", "chunk 17;"};
        for (String clause : refused) {
            SpanMap x = new SpanMap();
            x.fetch(0);
            due.is("first " + clause, Due.run(x, clause + "age;"), 0);
            due.is("fault(2) " + clause, x.fault(2), 0);
            due.is("fault(0) " + clause, x.fault(0), 0);
            due.is("no act " + clause, x.look(7), 0);
            due.is("second " + clause, Due.run(x, "age;" + clause + "age;split 0 5;"), 1);
            due.is("fault(2) " + clause, x.fault(2), 1);
            due.is("an act " + clause, x.look(7), 1);
            due.is("no split " + clause, x.look(1), 1);
            due.is("fault(3)", x.fault(3), -1);
            due.is("fault(-1)", x.fault(-1), -1);
            x.script();
            due.is("fault(2) of the latest", x.fault(2), -1);
        }
        SpanMap x = new SpanMap();
        x.fetch(0);
        x.split(0, 5);
        due.is("read that is stale", Due.run(x, "read 0 1;"), 0);
        due.is("it was asked", x.clientOf(0, 4), 1);
        due.is("the act is not forgotten by that", x.look(7), 1);
    }

    private static void blanksAndDigits() {
        SpanMap x = new SpanMap();
        due.is("without blanks", Due.run(x, "fetch0;write0 0000000000012 00007;age;"), 3);
        due.is("stored", x.stored(0, 12), 7);
        due.is("with blanks", Due.run(x, "   fetch   1  ;  age ;   "), 2);
        due.is("blanks alone", Due.run(x, "      "), 0);
        due.is("blanks alone are no fault", x.fault(0), 0);
        due.is("a read of no value is done", Due.run(x, "read 0 500;read 0 501;"), 2);
        due.is("a number of 99999", Due.run(x, "write 0 13 99999;"), 1);
        due.is("stored", x.stored(0, 13), 99999);
    }

    private static void fault(String text, int fault, int place) {
        SpanMap x = new SpanMap();
        due.is("script '" + text + "'", Due.run(x, text), -1);
        due.is("fault(0) of '" + text + "'", x.fault(0), fault);
        due.is("fault(1) of '" + text + "'", x.fault(1), place);
        due.is("fault(2) of '" + text + "'", x.fault(2), -1);
        due.is("nothing is done by '" + text + "'", x.look(7) + x.clientOf(0, 0), 0);
        due.is("the tape is empty behind '" + text + "'", x.look(8), 0);
    }

    private static void faultsByPlace() {
        fault("fetch 0;foo 1;", 1, 8);
        fault("fetch 0;fetchx 1;", 1, 8);
        fault("fetch 0; fetc 1;", 1, 9);
        fault("fetch 0", 1, 7);
        fault("fetch 0   ", 1, 10);
        fault("fetch", 1, 5);
        fault("fetch ", 1, 6);
        fault("fetch ;", 1, 6);
        fault("fetch 0 1;", 1, 8);
        fault("fetch 0 age;", 1, 8);
        fault(";", 1, 0);
        fault("  ;", 1, 2);
        fault("age;;", 1, 4);
        fault("Age;", 1, 0);
        fault("age1;", 1, 3);
        fault("5;", 1, 0);
        fault("read 1;", 1, 6);
        fault("fetch -1;", 1, 6);
        fault("fetch\t0;", 1, 5);
        fault("fetch 100000;", 2, 6);
        fault("fetch 00000100000;", 2, 6);
        fault("fetch 99999999999999999999999999999999999999;", 2, 6);
        fault("read 0 100000 x", 2, 7);
        fault("read 0 99999 x", 1, 13);
        fault("100000;", 1, 0);
        fault("fetch 0;\0", 1, 8);
    }

    private static void theFortyFirst() {
        StringBuilder forty = new StringBuilder("fetch 0;");
        for (int i = 1; i < 40; i++) {
            forty.append("age;");
        }
        SpanMap x = new SpanMap();
        due.is("forty", Due.run(x, forty.toString()), 40);
        due.is("one ACT", x.look(7), 1);
        fault(forty + " age;", 3, 165);
        fault(forty + "fetch 100000;", 3, 164);
        fault(forty + ";", 1, 164);
        fault(forty + "foo;", 1, 164);
        fault("fetch x;" + forty, 1, 6);
    }

    private static void signsAbove127() {
        SpanMap x = new SpanMap();
        x.feed(0x6167653b, 0xff000000, 0, 0, 0);
        due.is("script", x.script(), -1);
        due.is("place", x.fault(1), 4);
        x.feed(0xe167653b, 0, 0, 0, 0);
        due.is("script", x.script(), -1);
        due.is("place", x.fault(1), 0);
    }
}
