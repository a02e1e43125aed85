/** What the tests share: it counts wrong answers and ends a test with exit code 1 if there was one. */
class Check {
    interface Call {
        void make();
    }

    private final String test;
    private int made;
    private int wrong;

    Check(String test) {
        this.test = test;
    }

    void due(String call, long got, long due) {
        made++;
        if (got != due) {
            report(call, String.valueOf(got), String.valueOf(due));
        }
    }

    void due(String call, boolean got, boolean due) {
        made++;
        if (got != due) {
            report(call, String.valueOf(got), String.valueOf(due));
        }
    }

    void dueDouble(String call, double got, double due) {
        made++;
        if (Double.doubleToLongBits(got) != Double.doubleToLongBits(due)) {
            report(call, String.valueOf(got), String.valueOf(due));
        }
    }

    void dueText(String call, String got, String due) {
        made++;
        if (!got.equals(due)) {
            reportFirstDifference(call, got.split("\n"), due.split("\n"));
        }
    }

    private void reportFirstDifference(String call, String[] got, String[] due) {
        int line = 0;
        while (line < got.length - 1 && line < due.length - 1 && got[line].equals(due[line])) {
            line++;
        }
        report(call, got[line], due[line]);
    }

    void outOfBounds(String call, Call made) {
        dueThrow(call, made, IndexOutOfBoundsException.class);
    }

    void badArgument(String call, Call made) {
        dueThrow(call, made, IllegalArgumentException.class);
    }

    void badState(String call, Call made) {
        dueThrow(call, made, IllegalStateException.class);
    }

    void dueThrow(String call, Call body, Class<?> due) {
        made++;
        String got = "nothing";
        try {
            body.make();
        } catch (RuntimeException thrown) {
            // The exact class: the machine's own exceptions are subclasses of the document's.
            got = thrown.getClass().getName();
        }
        if (!got.equals(due.getName())) {
            report(call, "throws " + got, "throws " + due.getName());
        }
    }

    private void report(String call, String got, String due) {
        wrong++;
        if (wrong <= 50) {
            System.out.println(test + ": " + heading() + call + " answered " + got + ", due is " + due);
        }
    }

    /** What a report says before the call. */
    String heading() {
        return "";
    }

    int wrongCount() {
        return wrong;
    }

    void end() {
        System.out.println(test + ": " + made + " answers, " + wrong + " wrong");
        if (wrong != 0) {
            System.exit(1);
        }
    }

    /** Appends a text, filled up with spaces, and parses it; returns what parse does. */
    static int parse(BusBridge bridge, String text) {
        append(bridge, text);
        return bridge.parse(text.length());
    }

    /** Appends a text, filled up with spaces; returns the last length. */
    static int append(BusBridge bridge, String text) {
        int length = 0;
        for (int i = 0; i < text.length(); i += 20) {
            length = bridge.append(four(text, i), four(text, i + 4), four(text, i + 8),
                    four(text, i + 12), four(text, i + 16));
        }
        return length;
    }

    private static int four(String text, int from) {
        int bytes = 0;
        for (int i = from; i < from + 4; i++) {
            bytes = bytes << 8 | (i < text.length() ? text.charAt(i) & 255 : 32);
        }
        return bytes;
    }

    /** A new bridge with a text, which must be right. */
    static BusBridge bridge(String text) {
        BusBridge bridge = new BusBridge();
        int code = parse(bridge, text);
        if (code != 0) {
            throw new AssertionError("error " + code + " at " + bridge.errorPosition() + " of: " + text);
        }
        return bridge;
    }
}
