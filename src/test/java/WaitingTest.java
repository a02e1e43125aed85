/** Promises 9 to 13: waiting, kindAt, tagAt, blockers and next. */
public final class WaitingTest {
    private static final Check CHECK = new Check("WaitingTest");

    public static void main(String[] args) {
        whatWaits();
        completionsWait();
        relaxed();
        nextNeedsCredits();
        manyWait();
        wrongInputs();
        CHECK.end();
    }

    private static void whatWaits() {
        BusBridge x = new BusBridge();
        x.read(0, 0, 1, false);
        x.configure(0, 1, 5, false);
        x.post(0, 2, 1, 6, false);
        x.read(0, 3, 1, false);
        x.post(0, 4, 1, 7, false);
        CHECK.due("waiting(0)", x.waiting(0), 5);
        CHECK.due("waiting(1)", x.waiting(1), 0);
        int[] kinds = {1, 2, 0, 1, 0};
        int[] tags = {0, 1, -1, 2, -1};
        int[] blockers = {0, 0, 0, 4, 4};
        for (int i = 0; i < 5; i++) {
            CHECK.due("kindAt", x.kindAt(0, i), kinds[i]);
            CHECK.due("tagAt", x.tagAt(0, i), tags[i]);
            CHECK.due("blockers", x.blockers(0, i), blockers[i]);
        }
        CHECK.due("next(0)", x.next(0), 0);
        CHECK.due("next(1)", x.next(1), -1);
        CHECK.due("run(1)", x.run(1), 1);
        CHECK.due("kindAt(0, 0) then", x.kindAt(0, 0), 2);
        CHECK.due("blockers(0, 2) then", x.blockers(0, 2), 2);
    }

    private static void completionsWait() {
        // Side 0 takes no completions, so those of tag 1 stay in the bridge.
        BusBridge x = Check.bridge("credit 0 3 0; latency 1 0; split 1;");
        x.read(0, 0, 1, false);
        x.read(0, 2, 3, false);
        x.run(10);
        CHECK.due("waiting(1)", x.waiting(1), 4);
        CHECK.due("tagAt(1, 0)", x.tagAt(1, 0), 0);
        for (int i = 1; i < 4; i++) {
            CHECK.due("kindAt", x.kindAt(1, i), 3);
            CHECK.due("tagAt", x.tagAt(1, i), 1);
            CHECK.due("blockers", x.blockers(1, i), 0);
        }
        CHECK.due("next(1)", x.next(1), -1);
        x.post(1, 0, 1, 9, false);
        CHECK.due("next(1) with a write", x.next(1), 4);
        x.read(1, 0, 1, false);
        CHECK.due("blockers(1, 5)", x.blockers(1, 5), 31);
    }

    private static void relaxed() {
        BusBridge x = Check.bridge("table 3 3 0; table 1 1 0; credit 1 0 0;");
        x.post(0, 0, 1, 1, false);
        x.read(0, 0, 1, true);
        x.read(0, 0, 1, true);
        x.configure(0, 0, 1, false);
        x.post(0, 0, 1, 1, true);
        CHECK.due("a relaxed read passes a write", x.blockers(0, 1), 0);
        CHECK.due("but no read here", x.blockers(0, 2), 2);
        CHECK.due("a configuration write does not", x.blockers(0, 3), 1);
        CHECK.due("a relaxed write does", x.blockers(0, 4), 0);
        CHECK.due("next(0)", x.next(0), 1);
        x.run(1);
        CHECK.due("passings(0)", x.passings(0), 1);
        // Completions are relaxed like their requests.
        BusBridge y = Check.bridge("credit 0 0 0; latency 1 0;");
        y.post(1, 0, 1, 1, false);
        y.read(0, 0, 1, true);
        y.run(1);
        y.configure(0, 0, 1, true);
        y.run(1);
        CHECK.due("completion of a relaxed read", y.forwarded(1), 1);
        y.run(1);
        CHECK.due("completion of a relaxed configuration write", y.forwarded(1), 2);
        y.read(0, 0, 1, false);
        y.run(5);
        CHECK.due("completion of another read", y.forwarded(1), 2);
        CHECK.due("blockers(1, 1)", y.blockers(1, 1), 1);
    }

    private static void nextNeedsCredits() {
        BusBridge x = Check.bridge("credit 1 1 1; latency 1 50;");
        x.read(0, 0, 1, false);
        x.read(0, 0, 1, false);
        x.configure(0, 0, 1, false);
        CHECK.due("next(0)", x.next(0), 0);
        x.run(1);
        CHECK.due("next(0) without credits for reads", x.next(0), 1);
        x.run(1);
        CHECK.due("next(0) without any", x.next(0), -1);
        CHECK.due("next(0) again", x.next(0), -1);
    }

    private static void manyWait() {
        BusBridge x = Check.bridge("buffer 0 0 8; buffer 0 1 8; buffer 0 2 8; buffer 0 3 8; tags 8;"
                + "table 0 0 0; table 0 1 0; table 0 2 0; credit 1 0 0; credit 1 1 0; credit 1 2 0;"
                + "credit 1 3 0; latency 0 0; split 1;");
        for (int i = 0; i < 4; i++) {
            x.read(0, 0, 1, false);
            x.configure(0, 0, 1, false);
            x.read(1, 0, 2, false);
        }
        x.run(20);
        for (int i = 0; i < 8; i++) {
            x.post(0, 0, 1, 1, false);
        }
        CHECK.due("waiting(0)", x.waiting(0), 24);
        CHECK.due("blockers(0, 23)", x.blockers(0, 23), 0x7f00ff);
    }

    private static void wrongInputs() {
        BusBridge x = new BusBridge();
        x.post(1, 0, 1, 0, false);
        int[] sides = {-1, 2, Integer.MIN_VALUE, Integer.MAX_VALUE};
        for (int side : sides) {
            CHECK.outOfBounds("waiting", () -> x.waiting(side));
            CHECK.outOfBounds("kindAt", () -> x.kindAt(side, 0));
            CHECK.outOfBounds("tagAt", () -> x.tagAt(side, 0));
            CHECK.outOfBounds("blockers", () -> x.blockers(side, 0));
            CHECK.outOfBounds("next", () -> x.next(side));
        }
        int[] positions = {-1, 1, 31, 32, Integer.MIN_VALUE, Integer.MAX_VALUE};
        for (int position : positions) {
            CHECK.outOfBounds("kindAt", () -> x.kindAt(1, position));
            CHECK.outOfBounds("tagAt", () -> x.tagAt(1, position));
            CHECK.outOfBounds("blockers", () -> x.blockers(1, position));
        }
        CHECK.outOfBounds("kindAt(0, 0)", () -> x.kindAt(0, 0));
        CHECK.due("kindAt(1, 0)", x.kindAt(1, 0), 0);
    }
}
