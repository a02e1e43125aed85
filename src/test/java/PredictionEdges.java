/** The boundary cases of promises 24 to 26: ticksToRest, isStuck and completeTick. */
final class PredictionEdges {
    /**
     * Eight writes of the latency 50 with one credit are accepted in 1, 52, .. 358, then three configuration
     * writes in 359, 410 and 461; the last one is worked on in 512, and its completion in 563.
     */
    private static final String SLOW = "buffer 0 0 8; credit 1 0 1; credit 1 2 1; latency 1 50; latency 0 50;";
    private static final int LAST_MOVE = 563;

    private final Edges e;

    private PredictionEdges(Edges e) {
        this.e = e;
    }

    static void all(Edges e) {
        PredictionEdges t = new PredictionEdges(e);
        t.smallestNumber();
        t.heldForEver();
        t.limitOfRest();
        t.lateMoves();
        t.stuck();
        t.limitOfStuck();
        t.completeTick();
        t.limitOfCompletion();
        t.pastTheLastTick();
        t.nothingChanges();
    }

    private static void issueSlowOnes(BusBridge x) {
        for (int i = 0; i < 8; i++) {
            x.post(0, 0, 1, i, false);
        }
        for (int i = 0; i < 3; i++) {
            x.configure(0, 0, 1, false);
        }
    }

    private void expect(BusBridge x, int rest, boolean stuck) {
        e.due("ticksToRest() in " + x.tick(), x.ticksToRest(), rest);
        e.due("isStuck() in " + x.tick(), x.isStuck(), stuck);
    }

    private void smallestNumber() {
        e.says(24, "Returns after how many ticks nothing moves any more if nothing is issued: the smallest number n such that, "
                + "after n ticks, nothing waits or is held, or no tick after these changes anything but its number.");
        BusBridge x = new BusBridge();
        expect(x, 0, false);
        x.run(300);
        expect(x, 0, false);
        // Accepted in the next tick, worked on m + 1 ticks later.
        for (int m = 0; m <= 50; m += 10) {
            BusBridge y = Check.bridge("latency 1 " + m + ";");
            y.post(0, 0, 1, 1, false);
            for (int left = m + 2; left >= 0; left--) {
                expect(y, left, false);
                y.run(1);
            }
            expect(y, 0, false);
        }
        // A complete tag that nobody releases does not move.
        BusBridge z = new BusBridge();
        z.read(0, 0, 4, false);
        expect(z, 6, false);
        z.run(6);
        expect(z, 0, false);
        e.due("tagState(0, 0)", z.tagState(0, 0), 2);
        // What is issued meanwhile counts anew.
        z.post(1, 0, 1, 1, false);
        expect(z, 3, false);
        z.undo();
        expect(z, 0, false);
        // A target that writes what the memory holds already, and nothing else, still lets go of the write.
        BusBridge w = new BusBridge();
        w.post(0, 0, 1, 0, false);
        expect(w, 3, false);
    }

    private void heldForEver() {
        // The second one is held and never has room, first while its latency runs, then without end.
        for (int m = 0; m <= 50; m += 25) {
            BusBridge x = Check.bridge("buffer 1 3 1; credit 0 3 0; latency 1 (tick-1)*" + m + ";");
            x.configure(0, 0, 1, false);
            x.configure(0, 1, 1, false);
            expect(x, 2, true);
            x.run(1);
            expect(x, 1, true);
            x.run(1);
            expect(x, 0, true);
            e.due("held(1, 2)", x.held(1, 2), 1);
            Edges.runTo(x, 2 + m);
            expect(x, 0, true);
            x.run(60);
            expect(x, 0, true);
            e.due("held(1, 2)", x.held(1, 2), 1);
        }
        // A read of which a part has room: the last change is that part.
        BusBridge y = Check.bridge("buffer 1 3 1; credit 0 3 0; latency 1 9; split 1;");
        y.read(0, 0, 2, false);
        expect(y, 11, true);
        y.run(11);
        expect(y, 0, true);
        e.due("waiting(1)", y.waiting(1), 1);
        e.due("held(1, 1)", y.held(1, 1), 1);
    }

    private void limitOfRest() {
        e.says(24, "Returns 0 to 500; NONE if that is not so within 500 ticks.");
        BusBridge x = Check.bridge(SLOW);
        issueSlowOnes(x);
        expect(x, -1, false);
        Edges.runTo(x, LAST_MOVE - 501);
        expect(x, -1, false);
        x.run(1);
        expect(x, 500, false);
        x.run(1);
        expect(x, 499, false);
        Edges.runTo(x, LAST_MOVE - 1);
        expect(x, 1, false);
        x.run(1);
        expect(x, 0, false);
        x.run(1);
        expect(x, 0, false);
    }

    private void lateMoves() {
        // Something moves in the 500th tick and again 51 ticks later: nothing rests within 500 ticks.
        BusBridge x = Check.bridge(SLOW);
        issueSlowOnes(x);
        Edges.runTo(x, LAST_MOVE - 51 - 500);
        expect(x, -1, false);
        // The last move but one is in the 450th tick, the last in the 501st.
        Edges.runTo(x, LAST_MOVE - 501);
        expect(x, -1, false);
    }

    private void stuck() {
        e.says(25, "Returns whether the bridge will be stuck if nothing is issued: whether there is a ticksToRest, "
                + "and something waits or is held then.");
        BusBridge x = new BusBridge();
        e.due("isStuck() of a new object", x.isStuck(), false);
        x.post(0, 0, 1, 1, false);
        e.due("isStuck() while something moves", x.isStuck(), false);
        // Something waits for ever, from either side, of every kind.
        for (int i = 0; i < 8; i++) {
            int side = i / 4;
            BusBridge y = Check.bridge("credit " + (1 - side) + " " + i % 4 + " 0; latency " + side + " 0;");
            Edges.issue(y, side, i % 4, false);
            expect(y, i % 4 == 3 ? 2 : 0, true);
            y.run(9);
            expect(y, 0, true);
            e.due("waiting", y.waiting(side), 1);
        }
        // As many wait from a side as its target holds for ever, and the other side has nothing left.
        for (int side = 0; side < 2; side++) {
            BusBridge z = Check.bridge("buffer " + side + " 3 1; credit " + (1 - side) + " 3 0; latency " + side + " 0;");
            z.configure(1 - side, 0, 1, false);
            z.configure(1 - side, 0, 1, false);
            expect(z, 2, true);
            z.run(9);
            expect(z, 0, true);
            e.due("waiting", z.waiting(side), 1);
            e.due("held", z.held(side, 2), 1);
            z.undo();
            z.undo();
            expect(z, 2, true);
            z.undo();
            expect(z, 0, false);
        }
        // A safe bridge, both of whose sides ask a lot, is not stuck; one whose completions cannot pass is.
        e.due("isStuck() of a safe bridge", crossed("").isStuck(), false);
        BusBridge locked = crossed("table 3 1 0; table 3 2 0; buffer 0 3 1; buffer 1 3 1; credit 0 1 1; credit 1 1 1; split 1;");
        e.due("isSafe()", locked.isSafe(), false);
        e.due("isStuck() of a bridge that is not safe", locked.isStuck(), true);
    }

    /** Both sides read four times four words. */
    private static BusBridge crossed(String text) {
        BusBridge x = Check.bridge(text);
        for (int i = 0; i < 4; i++) {
            x.read(0, 0, 4, false);
            x.read(1, 0, 4, false);
        }
        return x;
    }

    private void limitOfStuck() {
        // A read that never goes on, and the slow ones: it is stuck after 563 ticks, which is told from tick 63 on.
        BusBridge x = Check.bridge(SLOW + "credit 1 1 0;");
        x.read(0, 0, 1, false);
        issueSlowOnes(x);
        Edges.runTo(x, LAST_MOVE - 501);
        expect(x, -1, false);
        x.run(1);
        expect(x, 500, true);
        Edges.runTo(x, LAST_MOVE);
        expect(x, 0, true);
        e.due("waiting(0)", x.waiting(0), 1);
    }

    private void completeTick() {
        e.says(26, "Returns in which tick a tag will be complete if nothing is issued.");
        for (int side = 0; side < 2; side++) {
            for (int m = 0; m <= 50; m += 25) {
                BusBridge x = Check.bridge("latency 0 " + m + "; latency 1 " + m + ";");
                x.run(3);
                int tag = x.configure(side, 0, 1, false);
                int due = 3 + 1 + (m + 1) + (m + 1);
                for (int tick = 3; tick < due; tick++) {
                    e.due("completeTick in " + tick, x.completeTick(side, tag), due);
                    e.due("tagState in " + tick, x.tagState(side, tag), 1);
                    x.run(1);
                }
                e.due("tagState", x.tagState(side, tag), 2);
            }
        }
        e.says(26, "Returns the number of the tick; the present one if it is complete already; NONE if it is free, or will not be complete within 500 ticks.");
        BusBridge x = Check.bridge("latency 0 0; latency 1 0; tags 8; credit 1 1 0;");
        e.due("completeTick of a free tag", x.completeTick(0, 0), -1);
        e.due("completeTick of the last free tag", x.completeTick(1, 7), -1);
        x.configure(0, 0, 1, false);
        x.run(3);
        e.due("completeTick in the tick in which it became complete", x.completeTick(0, 0), 3);
        x.run(1);
        e.due("completeTick a tick later", x.completeTick(0, 0), 4);
        x.run(300);
        e.due("completeTick much later", x.completeTick(0, 0), 304);
        x.release(0, 0);
        e.due("completeTick of a released tag", x.completeTick(0, 0), -1);
        x.undo();
        e.due("completeTick when that is undone", x.completeTick(0, 0), 304);
        x.read(0, 0, 1, false);
        e.due("completeTick of a request that never goes on", x.completeTick(0, 1), -1);
        x.configure(0, 0, 1, false);
        e.due("completeTick of one that does", x.completeTick(0, 2), 307);
        // A tag is complete with its last completion.
        BusBridge y = Check.bridge("split 1; latency 0 (3-address)*10; latency 1 0; credit 0 3 8;");
        y.read(0, 0, 4, false);
        e.due("completeTick of a read", y.completeTick(0, 0), 33);
    }

    private void limitOfCompletion() {
        BusBridge x = Check.bridge(SLOW);
        issueSlowOnes(x);
        // The tags 0, 1 and 2 are complete in 461, 512 and 563.
        e.due("completeTick(0, 0) in 0", x.completeTick(0, 0), 461);
        e.due("completeTick(0, 1) in 0", x.completeTick(0, 1), -1);
        Edges.runTo(x, 11);
        e.due("completeTick(0, 1) in 11", x.completeTick(0, 1), -1);
        x.run(1);
        e.due("completeTick(0, 1) in 12", x.completeTick(0, 1), 512);
        e.due("completeTick(0, 2) in 12", x.completeTick(0, 2), -1);
        Edges.runTo(x, LAST_MOVE - 501);
        e.due("completeTick(0, 2) in 62", x.completeTick(0, 2), -1);
        x.run(1);
        e.due("completeTick(0, 2) in 63", x.completeTick(0, 2), 563);
        Edges.runTo(x, LAST_MOVE);
        e.due("completeTick(0, 2) in 563", x.completeTick(0, 2), 563);
        e.due("tagState(0, 2)", x.tagState(0, 2), 2);
    }

    private void pastTheLastTick() {
        // Predictions count ticks that run can no more do.
        BusBridge x = Check.bridge("latency 0 50; latency 1 50;");
        Edges.runTo(x, 9999);
        x.configure(0, 0, 1, false);
        e.due("completeTick(0, 0)", x.completeTick(0, 0), 9999 + 1 + 51 + 51);
        expect(x, 103, false);
        e.due("completeTick of a free tag", x.completeTick(0, 1), -1);
        e.due("tick()", x.tick(), 9999);
        e.badState("run(1)", () -> x.run(1));
    }

    private void nothingChanges() {
        e.says(24, "---- predictions: nothing changes by them");
        for (int ticks = 0; ticks < 30; ticks += 3) {
            int t = ticks;
            Edges.Play before = x -> {
                Check.parse(x, "tags 3; split 1; latency 1 4; credit 1 0 1; word 0 5 6;");
                ChangeEdges.busy(x);
                if (t > 0) {
                    x.run(t);
                }
            };
            e.changesNothing("ticksToRest()", before, BusBridge::ticksToRest);
            e.changesNothing("isStuck()", before, BusBridge::isStuck);
            for (int tag = 0; tag < 3; tag++) {
                int k = tag;
                e.changesNothing("completeTick()", before, x -> x.completeTick(0, k));
                e.changesNothing("completeTick()", before, x -> x.completeTick(1, k));
            }
        }
    }
}
