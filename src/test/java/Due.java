/** Prints every answer that is not the one that is due, and ends with exit code 1 if there was one. */
final class Due {
    private final String test;
    private int wrong = 0;

    Due(String test) {
        this.test = test;
    }

    void is(String call, long got, long want) {
        if (got != want) {
            wrong++;
            System.out.println(test + where() + ": " + call + " answered " + got + ", due is " + want);
        }
    }

    void is(String call, boolean got, boolean want) {
        is(call, got ? 1 : 0, want ? 1 : 0);
    }

    /** The method and line of the test that asked, so that its remark is found. */
    private String where() {
        String found = "";
        for (StackTraceElement at : new Throwable().getStackTrace()) {
            if (at.getClassName().equals(test) && !at.getMethodName().equals("main")) {
                found = "." + at.getMethodName() + ", line " + at.getLineNumber();
            }
        }
        return found;
    }

    void end() {
        if (wrong != 0) {
            System.out.println(test + ": " + wrong + " answers are not as due");
            System.exit(1);
        }
    }

    /** Puts a text on the tape, twenty bytes a call, and cuts off what was too much. */
    static boolean type(SpanMap x, String text) {
        int had = x.look(8);
        for (int i = 0; i < text.length(); i += 20) {
            if (x.feed(four(text, i), four(text, i + 4), four(text, i + 8), four(text, i + 12), four(text, i + 16)) < 0) {
                return false;
            }
        }
        return x.end(had + text.length());
    }

    static int run(SpanMap x, String text) {
        x.end(0);
        type(x, text);
        return x.script();
    }

    static int four(String text, int at) {
        int number = 0;
        for (int i = at; i < at + 4; i++) {
            number = number << 8 | (i < text.length() ? text.charAt(i) & 255 : 32);
        }
        return number;
    }
}
