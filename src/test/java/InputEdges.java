/** The boundary cases of promises 1 to 5: a new object, append, parse, errorPosition and tick. */
final class InputEdges {
    private static final int BLANK = 0x20202020;

    private final Edges e;

    private InputEdges(Edges e) {
        this.e = e;
    }

    static void all(Edges e) {
        InputEdges t = new InputEdges(e);
        t.newObject();
        t.bytesOfAppend();
        t.fullInput();
        t.firstBytes();
        t.lengths();
        t.success();
        t.error();
        t.codes();
        t.errorPositions();
        t.ticks();
        t.none();
    }

    private static int blank(BusBridge x) {
        return x.append(BLANK, BLANK, BLANK, BLANK, BLANK);
    }

    private void newObject() {
        e.says(1, "Creates a simulator of the bridge that the empty text describes, with an empty input buffer.");
        BusBridge described = new BusBridge();
        e.due("parse(0)", described.parse(0), 0);
        e.dueText("everything", Look.through(new BusBridge()), Look.through(described));
        e.badArgument("parse(1)", () -> new BusBridge().parse(1));
        e.due("the first append", blank(new BusBridge()), 20);
        e.due("undo()", new BusBridge().undo(), -1);
        e.badState("restoreSnapshot(0)", () -> new BusBridge().restoreSnapshot(0));
        e.badState("restoreSnapshot(1)", () -> new BusBridge().restoreSnapshot(1));
        // Objects have nothing in common.
        BusBridge one = new BusBridge();
        BusBridge other = new BusBridge();
        one.post(0, 0, 1, 1, false);
        one.run(5);
        blank(one);
        e.dueText("another object", Look.through(other), Look.through(new BusBridge()));
    }

    private void bytesOfAppend() {
        e.says(2, "Appends 20 bytes to the input buffer: the four bytes of each argument, the most significant byte first.");
        // "word 0 1 1234;split " and "1;word 1 2 56;      " with every byte in its place.
        BusBridge x = new BusBridge();
        e.due("append", x.append(0x776f7264, 0x20302031, 0x20313233, 0x343b7370, 0x6c697420), 20);
        e.due("append", x.append(0x313b776f, 0x72642031, 0x20322035, 0x363b2020, 0x20202020), 40);
        e.due("parse(40)", x.parse(40), 0);
        e.due("word(0, 1)", x.word(0, 1), 1234);
        e.due("word(1, 2)", x.word(1, 2), 56);
        // Each of 20 bytes is found at its own position; bytes of 128 and more stay single.
        for (int place = 0; place < 20; place++) {
            for (int sign = 0; sign < 256; sign += 51) {
                int[] five = {BLANK, BLANK, BLANK, BLANK, BLANK};
                int shift = 24 - place % 4 * 8;
                five[place / 4] = five[place / 4] & ~(255 << shift) | sign << shift;
                BusBridge y = new BusBridge();
                y.append(five[0], five[1], five[2], five[3], five[4]);
                e.due("parse with the byte " + sign, y.parse(20), 1);
                e.due("errorPosition()", y.errorPosition(), place);
            }
        }
        int[] ends = {0, -1, Integer.MIN_VALUE, Integer.MAX_VALUE};
        for (int four : ends) {
            BusBridge z = new BusBridge();
            e.due("append", z.append(four, four, four, four, four), 20);
            e.due("parse(20)", z.parse(20), 1);
            e.due("errorPosition()", z.errorPosition(), 0);
        }
    }

    private void fullInput() {
        e.says(2, "Returns the new length of the buffer; NONE, with nothing appended, if it would exceed 600.");
        BusBridge x = new BusBridge();
        for (int length = 20; length <= 580; length += 20) {
            e.due("append", blank(x), length);
        }
        // "tags 8;" are the last bytes.
        e.due("append that fills it", x.append(BLANK, BLANK, BLANK, 0x20746167, 0x7320383b), 600);
        for (int i = 0; i < 3; i++) {
            e.due("append to the full buffer", x.append(-1, -1, -1, -1, -1), -1);
        }
        e.badArgument("parse(601)", () -> x.parse(601));
        e.badArgument("parse(620)", () -> x.parse(620));
        e.due("parse(600)", x.parse(600), 0);
        e.due("tagState(0, 7)", x.tagState(0, 7), 0);
        e.due("append to the emptied buffer", blank(x), 20);
        e.due("append", blank(x), 40);
        // A call that throws does not empty the buffer.
        e.badArgument("parse(41)", () -> x.parse(41));
        e.due("append", blank(x), 60);
    }

    private void firstBytes() {
        e.says(3, "Parses the first length bytes of the input buffer as a bridge text.");
        String text = "tags 1; split 9;";
        int[] lengths = {0, 7, 8};
        for (int length : lengths) {
            BusBridge x = new BusBridge();
            Check.append(x, text);
            e.due("parse(" + length + ")", x.parse(length), 0);
            e.due("what lies behind is gone", blank(x), 20);
            e.due("parse(20)", x.parse(20), 0);
        }
        BusBridge y = new BusBridge();
        Check.append(y, text);
        e.due("parse(15)", y.parse(15), 3);
        e.due("errorPosition()", y.errorPosition(), 14);
        // Bytes of an earlier, longer text are not seen again.
        BusBridge z = new BusBridge();
        Check.append(z, "tags 1; split 1; word 0 0 7; word 0 1 8;");
        e.due("parse(40)", z.parse(40), 0);
        Check.append(z, "word 0 0 9;         ");
        e.badArgument("parse(21)", () -> z.parse(21));
        e.due("parse(20)", z.parse(20), 0);
        e.due("word(0, 0)", z.word(0, 0), 9);
        e.due("word(0, 1)", z.word(0, 1), 0);
        e.due("tags are 4 again", z.tagState(0, 3), 0);
    }

    private void lengths() {
        e.says(3, "- `length`: 0 to the length of the buffer");
        e.says(3, "Throws `IllegalArgumentException` if length is out of range");
        for (int length = 0; length <= 600; length += 100) {
            BusBridge x = new BusBridge();
            for (int i = 0; i < length; i += 20) {
                blank(x);
            }
            int one = length + 1;
            int many = length + 20;
            e.badArgument("parse(-1)", () -> x.parse(-1));
            e.badArgument("parse(length + 1)", () -> x.parse(one));
            e.badArgument("parse(length + 20)", () -> x.parse(many));
            e.badArgument("parse(MIN)", () -> x.parse(Integer.MIN_VALUE));
            e.badArgument("parse(MAX)", () -> x.parse(Integer.MAX_VALUE));
            e.due("parse(length)", x.parse(length), 0);
            e.badArgument("parse(1) of the emptied buffer", () -> x.parse(1));
            e.due("parse(0)", x.parse(0), 0);
        }
    }

    private void success() {
        e.says(3, "On success the described bridge replaces the current one.");
        String text = "tags 8; split 1; buffer 0 0 1; buffer 1 3 2; credit 1 0 0; credit 0 3 1; table 0 1 0; table 1 3 1;"
                + "word 0 0 7; word 1 15 8; latency 0 20; latency 1 kind+3;";
        BusBridge x = Check.bridge(text);
        e.due("parse of another text", Check.parse(x, "word 1 1 4;"), 0);
        e.dueText("nothing is left of the first", Look.through(x), Look.through(Check.bridge("word 1 1 4;")));
        BusBridge y = Check.bridge(text);
        e.due("parse of the empty text", y.parse(0), 0);
        behavesLike(y, new BusBridge());
        behavesLike(Check.bridge(text), Check.bridge(text));
        BusBridge z = Check.bridge(text);
        e.due("parse of the same text", Check.parse(z, text), 0);
        behavesLike(z, Check.bridge(text));
        // Nor is anything left of texts before the last one, or of wrong ones.
        for (int texts = 1; texts <= 4; texts++) {
            BusBridge w = new BusBridge();
            for (int i = 0; i < texts; i++) {
                e.due("parse", Check.parse(w, text), 0);
                e.due("parse of a wrong text", Check.parse(w, text + "latency 0 7+(((((8*9; latency 1 40;"), 1);
            }
            e.due("parse(0)", w.parse(0), 0);
            behavesLike(w, new BusBridge());
            e.due("parse", Check.parse(w, "latency 0 2*(1+2); latency 1 3;"), 0);
            behavesLike(w, Check.bridge("latency 0 6; latency 1 3;"));
        }
    }

    /** The same calls have the same consequences, so that buffers, credits, latencies and split are the same. */
    private void behavesLike(BusBridge x, BusBridge y) {
        for (BusBridge b : new BusBridge[] {x, y}) {
            b.post(0, 0, 2, 5, false);
            b.read(0, 0, 4, false);
            b.read(1, 0, 4, true);
            b.configure(0, 3, 5, false);
            b.configure(1, 3, 5, false);
            b.run(4);
        }
        e.dueText("everything after some calls", Look.at(x), Look.at(y));
        x.run(40);
        y.run(40);
        e.dueText("everything after 40 ticks more", Look.through(x), Look.through(y));
    }

    private void error() {
        e.says(3, "On a parse error nothing changes except that the buffer is emptied; it is also empty after a success.");
        Edges.Play before = x -> {
            Check.parse(x, "tags 3; split 1; latency 1 4; credit 1 0 1; word 0 5 6;");
            ChangeEdges.work(x);
        };
        String[] wrong = {"?", "tags 1; tags 1;", "tags 1; split 9;", "latency 1 ((((((1", "word 0 5 7; credit 1 0 2; latency 1 5; table 0 1 0; split 2; buffer 0 0 1; tags 8"};
        for (String text : wrong) {
            BusBridge one = new BusBridge();
            BusBridge twin = new BusBridge();
            before.on(one);
            before.on(twin);
            // The same error position for both: the one thing beside the buffer that a parse error sets.
            int code = Check.parse(one, text);
            e.due("the text is wrong", code != 0, true);
            int position = one.errorPosition();
            Check.parse(twin, " ".repeat(position) + "?");
            e.due("errorPosition() of the twin", twin.errorPosition(), position);
            e.due("the buffer is empty", blank(one), 20);
            e.due("the buffer is empty", blank(twin), 20);
            e.dueText("everything after a parse error", Look.through(one), Look.through(twin));
        }
        BusBridge x = new BusBridge();
        Check.append(x, "oops");
        e.due("parse(4)", x.parse(4), 1);
        e.badArgument("the buffer is empty", () -> x.parse(1));
        Check.append(x, "tags 1;");
        e.due("parse(7)", x.parse(7), 0);
        e.badArgument("the buffer is empty", () -> x.parse(1));
        e.due("append", blank(x), 20);
        e.due("parse(0) empties it too", x.parse(0), 0);
        e.badArgument("the buffer is empty", () -> x.parse(1));
    }

    private void codes() {
        e.says(3, "Returns 0 on success; the code of the parse error.");
        e.right("tags 1;");
        e.wrong("?", 1, 0);
        e.wrong("tags 1;tags 1;", 2, 7);
        e.wrong("tags 9;", 3, 5);
        e.wrong("latency 0 ((((((1))))));", 4, 15);
    }

    private void errorPositions() {
        e.says(4, "Returns the position of the parse error of the last call of parse that did not throw an exception.");
        BusBridge x = new BusBridge();
        Check.parse(x, "tags 9;");
        e.due("errorPosition()", x.errorPosition(), 5);
        e.badArgument("parse(1)", () -> x.parse(1));
        e.due("errorPosition() after a throw", x.errorPosition(), 5);
        x.append(0, 0, 0, 0, 0);
        e.due("errorPosition() after append", x.errorPosition(), 5);
        e.due("parse", x.parse(20), 1);
        e.due("errorPosition() of the last one", x.errorPosition(), 0);
        x.run(1);
        x.saveSnapshot(0);
        Check.parse(x, "   oops");
        x.undo();
        e.due("errorPosition() after undo", x.errorPosition(), 3);
        x.restoreSnapshot(0);
        e.due("errorPosition() after restoreSnapshot", x.errorPosition(), 3);
        Check.parse(x, " ".repeat(600));
        e.due("errorPosition() after a success", x.errorPosition(), -1);
        Check.parse(x, "tags" + " ".repeat(596));
        e.due("errorPosition() at the end of 600 bytes", x.errorPosition(), 600);
        e.says(4, "Returns the position; NONE if that call succeeded or there was none.");
        BusBridge y = new BusBridge();
        e.due("errorPosition() of a new object", y.errorPosition(), -1);
        e.badArgument("parse(1)", () -> y.parse(1));
        e.due("errorPosition() after a throw", y.errorPosition(), -1);
        Check.parse(y, "?");
        e.due("errorPosition()", y.errorPosition(), 0);
        y.parse(0);
        e.due("errorPosition() after a success", y.errorPosition(), -1);
        e.badArgument("parse(-1)", () -> y.parse(-1));
        e.due("errorPosition() after a throw", y.errorPosition(), -1);
    }

    private void ticks() {
        e.says(5, "Returns the number of the tick.");
        BusBridge x = new BusBridge();
        e.due("tick() at first", x.tick(), 0);
        x.post(0, 0, 1, 1, false);
        e.due("tick() after post", x.tick(), 0);
        x.run(1);
        e.due("tick()", x.tick(), 1);
        Edges.runTo(x, 9999);
        e.due("tick() at last", x.tick(), 9999);
        x.ticksToRest();
        x.isStuck();
        x.completeTick(0, 0);
        e.due("tick() after predictions", x.tick(), 9999);
        x.parse(0);
        e.due("tick() after parse", x.tick(), 0);
    }

    private void none() {
        e.says(0, "- `NONE = -1`: Returned if there is no result.");
        e.due("NONE", BusBridge.NONE, -1);
    }
}
