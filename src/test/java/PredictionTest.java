/** Promises 24 to 26: ticksToRest, isStuck and completeTick. */
public final class PredictionTest {
    private static final Check CHECK = new Check("PredictionTest");

    public static void main(String[] args) {
        empty();
        comesToRest();
        longestPause();
        stuck();
        heldForEver();
        limitOfRest();
        moveAfterTheLimit();
        limitOfCompletion();
        nothingChanges();
        nearTheLastTick();
        wrongInputs();
        CHECK.end();
    }

    private static void expect(BusBridge x, int rest, boolean stuck) {
        CHECK.due("ticksToRest()", x.ticksToRest(), rest);
        CHECK.due("isStuck()", x.isStuck(), stuck);
    }

    private static void empty() {
        BusBridge x = new BusBridge();
        expect(x, 0, false);
        x.run(7);
        expect(x, 0, false);
        CHECK.due("completeTick of a free tag", x.completeTick(0, 0), -1);
    }

    private static void comesToRest() {
        BusBridge x = new BusBridge();
        x.post(0, 0, 1, 1, false);
        expect(x, 3, false);
        x.run(1);
        expect(x, 2, false);
        x.run(2);
        expect(x, 0, false);
        x.configure(1, 0, 1, false);
        // Accepted in 4, worked on in 6, its completion accepted in 6 and worked on in 8.
        CHECK.due("completeTick(1, 0)", x.completeTick(1, 0), 8);
        expect(x, 5, false);
        x.run(5);
        CHECK.due("tagState(1, 0)", x.tagState(1, 0), 2);
        CHECK.due("completeTick(1, 0) when complete", x.completeTick(1, 0), 8);
        x.run(3);
        CHECK.due("completeTick(1, 0) later", x.completeTick(1, 0), 11);
        x.release(1, 0);
        CHECK.due("completeTick(1, 0) when free", x.completeTick(1, 0), -1);
    }

    private static void longestPause() {
        BusBridge x = Check.bridge("latency 1 50;");
        x.post(0, 0, 1, 1, false);
        expect(x, 52, false);
        x.run(1);
        expect(x, 51, false);
        x.run(50);
        expect(x, 1, false);
        x.run(1);
        expect(x, 0, false);
    }

    private static void stuck() {
        BusBridge x = Check.bridge("credit 1 1 0;");
        x.read(0, 0, 1, false);
        expect(x, 0, true);
        CHECK.due("completeTick(0, 0)", x.completeTick(0, 0), -1);
        x.post(0, 0, 1, 1, false);
        expect(x, 3, true);
        // A table that lets nothing pass: a write waits behind a read that waits for credits.
        BusBridge y = Check.bridge("table 0 1 0; credit 1 1 0;");
        y.read(0, 0, 1, false);
        y.post(0, 0, 1, 1, false);
        expect(y, 0, true);
    }

    private static void heldForEver() {
        // The second configuration write is held and never gets room; its latency changes nothing.
        BusBridge x = Check.bridge("buffer 1 3 1; credit 0 3 0; latency 1 tick*10-10;");
        x.configure(0, 0, 1, false);
        x.configure(0, 1, 1, false);
        // Accepted in 1 with latency 0 and in 2 with latency 10: the last change is in tick 2.
        expect(x, 2, true);
        x.run(1);
        expect(x, 1, true);
        x.run(1);
        expect(x, 0, true);
        x.run(40);
        expect(x, 0, true);
        CHECK.due("completeTick(0, 0)", x.completeTick(0, 0), -1);
    }

    private static void limitOfRest() {
        // Posted writes with one credit and the latency 50: one each 51 ticks.
        BusBridge x = Check.bridge("buffer 0 0 8; credit 1 0 1; latency 1 50;buffer 1 0 8; credit 0 0 1; latency 0 50;");
        for (int i = 0; i < 8; i++) {
            x.post(0, 0, 1, i, false);
        }
        expect(x, 1 + 8 * 51, false);
        // With reads behind it the bridge needs longer than 500 ticks.
        BusBridge y = Check.bridge("buffer 0 0 8; credit 1 0 1; credit 1 1 1; latency 1 50; latency 0 50; split 1; credit 0 3 1;");
        for (int i = 0; i < 8; i++) {
            y.post(0, 0, 1, i, false);
        }
        y.read(0, 0, 4, false);
        // The last write is accepted in 358, the read in 359, its completions are made in 410 and
        // accepted in 410, 461, 512 and 563, the last is worked on in 614.
        expect(y, -1, false);
        CHECK.due("completeTick(0, 0)", y.completeTick(0, 0), -1);
        y.run(113);
        expect(y, -1, false);
        CHECK.due("completeTick(0, 0) in 113", y.completeTick(0, 0), -1);
        y.run(1);
        expect(y, 500, false);
        CHECK.due("completeTick(0, 0) in 114", y.completeTick(0, 0), 614);
        y.run(1);
        expect(y, 499, false);
    }

    private static void moveAfterTheLimit() {
        BusBridge x = Check.bridge("buffer 0 0 8; credit 1 0 1; credit 1 2 1; latency 1 50; latency 0 50;");
        for (int i = 0; i < 8; i++) {
            x.post(0, 0, 1, i, false);
        }
        for (int i = 0; i < 3; i++) {
            x.configure(0, 0, 1, false);
        }
        // The last write is accepted in 358; the configuration writes are accepted in 359, 410 and
        // 461, the last one is worked on in 512, and its completion in 563.
        expect(x, -1, false);
        x.run(12);
        // Something moves after 500 ticks, then nothing for the longest pause, then something again.
        expect(x, -1, false);
        CHECK.due("completeTick(0, 1)", x.completeTick(0, 1), 512);
        CHECK.due("completeTick(0, 2)", x.completeTick(0, 2), -1);
        x.run(50);
        expect(x, -1, false);
        x.run(1);
        expect(x, 500, false);
        CHECK.due("completeTick(0, 2)", x.completeTick(0, 2), 563);
    }

    private static void limitOfCompletion() {
        // The rest comes in time although the stuck part stays, and a later move makes it NONE.
        BusBridge x = Check.bridge("buffer 0 0 8; credit 1 0 1; latency 1 50; credit 1 1 0;");
        x.read(0, 0, 1, false);
        for (int i = 0; i < 8; i++) {
            x.post(0, 0, 1, i, false);
        }
        expect(x, 409, true);
        CHECK.due("completeTick(0, 0)", x.completeTick(0, 0), -1);
    }

    private static void nothingChanges() {
        BusBridge x = new BusBridge();
        x.read(0, 0, 4, false);
        x.post(1, 0, 4, 1, false);
        x.run(1);
        String before = show(x);
        for (int i = 0; i < 3; i++) {
            x.ticksToRest();
            x.isStuck();
            x.completeTick(0, 0);
        }
        CHECK.dueText("the situation", show(x), before);
        CHECK.due("undo()", x.undo(), 2);
    }

    private static String show(BusBridge x) {
        return x.tick() + " " + x.waiting(0) + " " + x.waiting(1) + " " + x.held(0, 0) + " " + x.held(1, 1) + " "
                + x.word(0, 0) + " " + x.tagState(0, 0) + " " + x.forwarded(0) + " " + x.forwarded(1) + " "
                + x.averageWait(0) + " " + x.stored(0, 0) + " " + x.undo() + " " + x.run(1);
    }

    private static void nearTheLastTick() {
        BusBridge x = Check.bridge("latency 1 50; latency 0 50;");
        for (int i = 0; i < 33; i++) {
            x.run(300);
        }
        x.run(99);
        x.read(0, 0, 1, false);
        // Predictions look on, though run could not go there.
        CHECK.due("completeTick(0, 0)", x.completeTick(0, 0), 9999 + 1 + 51 + 51);
        expect(x, 103, false);
        CHECK.badState("run(1)", () -> x.run(1));
    }

    private static void wrongInputs() {
        BusBridge x = Check.bridge("tags 1;");
        CHECK.outOfBounds("completeTick(-1, 0)", () -> x.completeTick(-1, 0));
        CHECK.outOfBounds("completeTick(2, 0)", () -> x.completeTick(2, 0));
        CHECK.outOfBounds("completeTick(0, -1)", () -> x.completeTick(0, -1));
        CHECK.outOfBounds("completeTick(0, 1)", () -> x.completeTick(0, 1));
        CHECK.outOfBounds("completeTick(1, 8)", () -> x.completeTick(1, 8));
    }
}
