/** Promises 1 to 5: a new object, append, parse with its errors, errorPosition and tick. */
public final class BridgeTextTest {
    private static final Check CHECK = new Check("BridgeTextTest");

    public static void main(String[] args) {
        newObject();
        appending();
        lengths();
        parseReplaces();
        parseClears();
        nothingIsLeftOfTexts();
        failedParseChangesNothing();
        defaults();
        rightTexts();
        notAllowed();
        endsTooEarly();
        secondTime();
        outOfRange();
        brackets();
        firstErrorWins();
        otherBytes();
        CHECK.end();
    }

    private static void newObject() {
        BusBridge x = new BusBridge();
        CHECK.due("tick()", x.tick(), 0);
        CHECK.due("errorPosition()", x.errorPosition(), -1);
        CHECK.badArgument("parse(1) of an empty buffer", () -> new BusBridge().parse(1));
        CHECK.due("parse(0)", x.parse(0), 0);
        for (int side = 0; side < 2; side++) {
            CHECK.due("waiting", x.waiting(side), 0);
            for (int address = 0; address < 16; address++) {
                CHECK.due("word", x.word(side, address), 0);
            }
            for (int tag = 0; tag < 4; tag++) {
                CHECK.due("tagState", x.tagState(side, tag), 0);
            }
        }
    }

    private static void appending() {
        BusBridge x = new BusBridge();
        for (int i = 1; i <= 30; i++) {
            CHECK.due("append", x.append(0x20202020, 0x20202020, 0x20202020, 0x20202020, 0x20202020), 20 * i);
        }
        CHECK.due("append to a full buffer", x.append(0x20202020, 0, 0, 0, 0), -1);
        CHECK.badArgument("parse(601)", () -> x.parse(601));
        CHECK.due("parse(600)", x.parse(600), 0);
        CHECK.due("append after parse", x.append(0x74616773, 0x20383b20, 0xffffffff, 0x80808080, 0), 20);
        CHECK.due("parse of 7 bytes", x.parse(7), 0);
        CHECK.due("tags 8", x.tagState(1, 7), 0);
        // The bytes of each argument, the most significant first, and no sign spreads.
        CHECK.due("append", x.append(0x776f7264, 0x20302031, 0x20303030, 0x353b8080, 0x3b), 20);
        CHECK.due("parse to a byte 128", x.parse(20), 1);
        CHECK.due("errorPosition()", x.errorPosition(), 14);
        x.append(0x776f7264, 0x20302031, 0x20303030, 0x353b8080, 0x3b);
        CHECK.due("parse before a byte 128", x.parse(14), 0);
        CHECK.due("word(0, 1)", x.word(0, 1), 5);
    }

    private static void lengths() {
        BusBridge x = new BusBridge();
        Check.append(x, "tags 1;");
        CHECK.badArgument("parse(-1)", () -> x.parse(-1));
        CHECK.badArgument("parse(21)", () -> x.parse(21));
        CHECK.badArgument("parse(MIN)", () -> x.parse(Integer.MIN_VALUE));
        CHECK.badArgument("parse(MAX)", () -> x.parse(Integer.MAX_VALUE));
        CHECK.due("errorPosition() after throws", x.errorPosition(), -1);
        CHECK.due("the buffer is still there", x.parse(20), 0);
        CHECK.due("tags 1", x.tagState(0, 0), 0);
        CHECK.outOfBounds("tags 1", () -> x.tagState(0, 1));
        CHECK.badArgument("the buffer is empty after a success", () -> x.parse(1));
        Check.append(x, "tags 9;");
        CHECK.due("parse", x.parse(20), 3);
        CHECK.due("errorPosition()", x.errorPosition(), 5);
        CHECK.badArgument("the buffer is empty after an error", () -> x.parse(1));
        CHECK.due("errorPosition() stays by a throw", x.errorPosition(), 5);
        CHECK.due("parse(0)", x.parse(0), 0);
        CHECK.due("errorPosition() after a success", x.errorPosition(), -1);
        CHECK.due("tags are 4 again", x.tagState(0, 3), 0);
    }

    private static void parseReplaces() {
        BusBridge x = Check.bridge("word 0 3 7; tags 2;");
        x.post(0, 0, 1, 5, false);
        x.read(1, 0, 1, false);
        x.run(9);
        x.saveSnapshot(0);
        x.saveSnapshot(1);
        CHECK.due("parse", Check.parse(x, "word 1 2 8;"), 0);
        CHECK.due("tick()", x.tick(), 0);
        CHECK.due("word(0, 3)", x.word(0, 3), 0);
        CHECK.due("word(1, 2)", x.word(1, 2), 8);
        CHECK.due("word(1, 0)", x.word(1, 0), 0);
        CHECK.due("tagState(1, 0)", x.tagState(1, 0), 0);
        CHECK.due("stored(1, 0)", x.stored(1, 0), 0);
        CHECK.due("tagState(1, 3)", x.tagState(1, 3), 0);
        CHECK.due("forwarded(0)", x.forwarded(0), 0);
        CHECK.due("waiting(0)", x.waiting(0), 0);
        CHECK.dueDouble("averageWait(0)", x.averageWait(0), 0.0);
        CHECK.due("undo()", x.undo(), -1);
        CHECK.badState("restoreSnapshot(0)", () -> x.restoreSnapshot(0));
        CHECK.badState("restoreSnapshot(1)", () -> x.restoreSnapshot(1));
        CHECK.due("saveSnapshot(0)", x.saveSnapshot(0), false);
    }

    private static void parseClears() {
        BusBridge x = Check.bridge("credit 1 0 1; latency 1 50; table 0 1 1; credit 1 1 0;");
        x.read(0, 0, 1, false);
        x.post(0, 0, 1, 1, false);
        x.post(0, 0, 1, 2, false);
        x.run(2);
        CHECK.due("passings(0)", x.passings(0), 1);
        CHECK.due("waiting(0)", x.waiting(0), 2);
        CHECK.due("held(1, 0)", x.held(1, 0), 1);
        CHECK.due("parse(0)", x.parse(0), 0);
        CHECK.due("waiting(0)", x.waiting(0), 0);
        CHECK.due("held(1, 0)", x.held(1, 0), 0);
        CHECK.due("passings(0)", x.passings(0), 0);
        CHECK.due("tagState(0, 0)", x.tagState(0, 0), 0);
        CHECK.dueDouble("utilisation(0)", x.utilisation(0), 0.0);
        for (int i = 1; i <= 4; i++) {
            CHECK.due("all the room is free", x.post(0, 0, 1, 1, false), i);
        }
        x.run(1);
        CHECK.dueDouble("averageWait(0)", x.averageWait(0), 1.0);
        CHECK.due("all credits are free", x.run(1), 1);
    }

    private static void nothingIsLeftOfTexts() {
        String all = "buffer 0 0 1; credit 1 0 1; table 0 0 1; table 1 1 0; word 1 0 9; latency 1 20; latency 0 tick+30; tags 1; split 1;";
        BusBridge x = new BusBridge();
        for (int i = 0; i < 3; i++) {
            CHECK.due("parse", Check.parse(x, all), 0);
            CHECK.due("parse of a text that fails", Check.parse(x, all + "latency 0 (((((1+2*"), 1);
            CHECK.due("parse again", Check.parse(x, all + "latency 1 (((((7)))));"), 0);
            x.post(0, 0, 1, 5, false);
            CHECK.due("the latency is 7", x.ticksToRest(), 9);
        }
        for (int i = 0; i < 2; i++) {
            CHECK.due("parse(0)", x.parse(0), 0);
            CHECK.due("mayPass(0, 0)", x.mayPass(0, 0, false), false);
            CHECK.due("mayPass(1, 1)", x.mayPass(1, 1, false), true);
            CHECK.due("word(1, 0)", x.word(1, 0), 0);
            CHECK.due("tagState(1, 3)", x.tagState(1, 3), 0);
            x.post(0, 0, 1, 5, false);
            CHECK.due("the latency is 1", x.ticksToRest(), 3);
            CHECK.due("the buffer has the size 4", x.post(0, 0, 1, 5, false), 2);
            x.run(9);
            x.read(0, 0, 2, false);
            CHECK.due("split is 2, the other latency is 1", x.ticksToRest(), 5);
        }
    }

    private static void failedParseChangesNothing() {
        BusBridge x = Check.bridge("word 0 3 7; tags 2; latency 1 3; split 1; table 1 1 0;");
        x.read(0, 0, 2, false);
        x.post(0, 1, 1, 6, false);
        x.run(2);
        x.saveSnapshot(1);
        CHECK.due("parse", Check.parse(x, "word 0 3 8; tags 5; latency 1 0; split 4; table 1 1 1; oops"), 1);
        CHECK.due("tick()", x.tick(), 2);
        CHECK.due("word(0, 3)", x.word(0, 3), 7);
        CHECK.outOfBounds("tagState(0, 2)", () -> x.tagState(0, 2));
        CHECK.due("mayPass(1, 1)", x.mayPass(1, 1, false), false);
        CHECK.due("held(1, 0)", x.held(1, 0), 1);
        CHECK.due("completeTick(0, 0)", x.completeTick(0, 0), 8);
        CHECK.due("undo()", x.undo(), 2);
        CHECK.due("restoreSnapshot(1)", x.restoreSnapshot(1), 2);
    }

    private static void defaults() {
        BusBridge x = new BusBridge();
        String table = "";
        for (int later = 0; later < 4; later++) {
            for (int earlier = 0; earlier < 4; earlier++) {
                table += x.mayPass(later, earlier, false) ? "1" : "0";
            }
        }
        CHECK.dueText("the table", table, "0111" + "0110" + "0110" + "0111");
        for (int i = 1; i <= 4; i++) {
            CHECK.due("post", x.post(0, 0, 1, i, false), i);
        }
        CHECK.badState("a fifth post", () -> x.post(0, 0, 1, 5, false));
        x.run(2);
        CHECK.due("held(1, 0)", x.held(1, 0), 2);
        x.run(1);
        CHECK.due("the latency is 1", x.word(1, 0), 1);
    }

    private static void rightTexts() {
        right("");
        right("   \n\n ");
        right("tags 8;");
        right("tags8;split4;");
        right("\ntags\n1\n;\nsplit\n1\n;");
        right("buffer 0 0 1;buffer 1 3 8;credit 0 0 0;credit 1 3 8;");
        right("buffer 0 0 1; buffer 0 0 2; credit 1 1 1; credit 1 1 1; table 3 3 0; table 3 3 1;");
        right("word 0 15 9999; word 1 0 0; word 0 15 0001;");
        right("latency 0 1; latency 0 2; latency 1 kind+address*words-tick/3%4;");
        right("latency 0(((((1)))));latency 1((((tick))))+(kind);");
        right("latency 0 0-1-2*3*(4)/5%6;");
        right("word 0000 0015 0000;");
        StringBuilder full = new StringBuilder("latency 1 1");
        while (full.length() < 598) {
            full.append("+1");
        }
        right(full + ";");
    }

    private static void right(String text) {
        BusBridge x = new BusBridge();
        CHECK.due("parse of " + text, Check.parse(x, text), 0);
        CHECK.due("errorPosition() of " + text, x.errorPosition(), -1);
    }

    private static void wrong(String text, int code, int position) {
        BusBridge x = new BusBridge();
        CHECK.due("parse of " + text, Check.parse(x, text), code);
        CHECK.due("errorPosition() of " + text, x.errorPosition(), position);
    }

    private static void notAllowed() {
        wrong(";", 1, 0);
        wrong("tags 2;;", 1, 7);
        wrong("tags 2; 3;", 1, 8);
        wrong("tag 2;", 1, 0);
        wrong("tagss 2;", 1, 0);
        wrong("xags 2;", 1, 0);
        wrong("Tags 2;", 1, 0);
        wrong("tAgs 2;", 1, 0);
        wrong("tagS 2;", 1, 0);
        wrong("tagsA 2;", 1, 4);
        wrong("kind 2;", 1, 0);
        wrong("buffer kind 0 1;", 1, 7);
        wrong("buffer 0;", 1, 8);
        wrong("buffer 0 0 1 1;", 1, 13);
        wrong("tags 2 split 2;", 1, 7);
        wrong("tags 00002;", 1, 5);
        wrong("tags 12345;", 1, 5);
        wrong("abcdefgh 1;", 1, 0);
        wrong("abcdefghi 1;", 1, 0);
        wrong("latency 0 ;", 1, 10);
        wrong("latency 0 +1;", 1, 10);
        wrong("latency 0 -1;", 1, 10);
        wrong("latency 0 1 2;", 1, 12);
        wrong("latency 0 1+;", 1, 12);
        wrong("latency 0 1+*2;", 1, 12);
        wrong("latency 0 ();", 1, 11);
        wrong("latency 0 (1;", 1, 12);
        wrong("latency 0 1);", 1, 11);
        wrong("latency 0 (1));", 1, 13);
        wrong("latency 0 1(2);", 1, 11);
        wrong("latency 0 split;", 1, 10);
        wrong("latency 0 kindx;", 1, 10);
        wrong("latency 0 kindkinds;", 1, 10);
        wrong("latency 0 12345;", 1, 10);
        wrong("latency kind 1;", 1, 8);
        wrong("split (2);", 1, 6);
    }

    private static void endsTooEarly() {
        wrong("t", 1, 0);
        wrong("tags", 1, 4);
        wrong("tags ", 1, 5);
        wrong("tags 2", 1, 6);
        wrong("tags 2 \n ", 1, 9);
        wrong("tags 2; buffer 1 1", 1, 18);
        wrong("latency", 1, 7);
        wrong("latency 0", 1, 9);
        wrong("latency 0 1+", 1, 12);
        wrong("latency 0 (1", 1, 12);
        wrong("latency 0 (1)", 1, 13);
        wrong("latency 0 (", 1, 11);
        BusBridge x = new BusBridge();
        Check.append(x, "tags 2;");
        CHECK.due("parse(6) does not see the seventh byte", x.parse(6), 1);
        CHECK.due("errorPosition()", x.errorPosition(), 6);
        Check.append(x, "word 0 0 1234;");
        CHECK.due("parse(13) cuts a text", x.parse(13), 1);
        CHECK.due("errorPosition()", x.errorPosition(), 13);
    }

    private static void secondTime() {
        wrong("tags 2;tags 3;", 2, 7);
        wrong("split 2; tags 3; split", 2, 17);
        wrong("split 2; split 9;", 2, 9);
        wrong("split 2; tags 1; tags ;", 2, 17);
        wrong("split 2; tags split", 1, 14);
        wrong("split split", 1, 6);
    }

    private static void outOfRange() {
        wrong("buffer 2 0 1;", 3, 7);
        wrong("buffer 0 4 1;", 3, 9);
        wrong("buffer 0 0 0;", 3, 11);
        wrong("buffer 0 0 9;", 3, 11);
        wrong("credit 2 0 1;", 3, 7);
        wrong("credit 1 4 1;", 3, 9);
        wrong("credit 1 3 9;", 3, 11);
        wrong("table 4 0 0;", 3, 6);
        wrong("table 3 4 0;", 3, 8);
        wrong("table 3 3 2;", 3, 10);
        wrong("word 2 0 0;", 3, 5);
        wrong("word 1 16 0;", 3, 7);
        wrong("latency 2 1;", 3, 8);
        wrong("split 0;", 3, 6);
        wrong("split 5;", 3, 6);
        wrong("tags 0;", 3, 5);
        wrong("tags 9;", 3, 5);
        wrong("tags 9", 3, 5);
        wrong("table 0 0 9999;", 3, 10);
    }

    private static void brackets() {
        wrong("latency 0 ((((((1))))));", 4, 15);
        wrong("latency 0 ((((((", 4, 15);
        wrong("latency 0 (((((1(;", 1, 16);
        wrong("latency 0 (((((1)+((;", 4, 19);
        right("latency 0 (((((1)+(2))+(3))+(4))+(5))+(6);");
        wrong("latency 0 (((((1+;", 1, 17);
        wrong("latency 0 (((((1)))); ", 1, 20);
    }

    private static void firstErrorWins() {
        wrong("tags 9; tags 9; oops", 3, 5);
        wrong("oops; tags 9;", 1, 0);
        wrong("split 1; split 1; buffer 2 2 2;", 2, 9);
        wrong("buffer 2 9 9;", 3, 7);
        wrong("buffer 2 ;", 3, 7);
        wrong("latency 3 ((((((1;", 3, 8);
    }

    private static void otherBytes() {
        for (int sign = 0; sign < 256; sign++) {
            boolean space = sign == 32 || sign == 10;
            boolean fits = space || sign == '+' || sign == '-' || sign == '*' || sign == '/' || sign == '%';
            boolean digit = sign >= '0' && sign <= '9';
            boolean ends = sign == ';';
            String text = "latency 0 1" + (char) sign + (space ? "" : "1") + ";";
            if (fits || digit) {
                right(text);
            } else {
                wrong(text, 1, ends ? 12 : 11);
            }
        }
    }
}
