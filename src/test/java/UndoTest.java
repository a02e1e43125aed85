/** Promises 32 to 34: undo, saveSnapshot and restoreSnapshot. */
public final class UndoTest {
    private static final Check CHECK = new Check("UndoTest");

    public static void main(String[] args) {
        undoEachChange();
        undoOfDataAndPassings();
        tenChanges();
        undoAndGoOn();
        snapshots();
        snapshotAndHistory();
        wrongInputs();
        CHECK.end();
    }

    private static void undoEachChange() {
        BusBridge x = Check.bridge("word 1 0 5; latency 0 0; latency 1 0;");
        CHECK.due("undo()", x.undo(), -1);
        x.read(0, 0, 2, false);
        x.run(9);
        CHECK.due("stored", x.stored(0, 0), 2);
        x.release(0, 0);
        x.configure(0, 0, 6, false);
        x.post(0, 1, 1, 7, false);
        x.run(5);
        CHECK.due("word(1, 0)", x.word(1, 0), 6);
        CHECK.due("word(1, 1)", x.word(1, 1), 7);
        CHECK.due("undo() of run", x.undo(), 5);
        CHECK.due("tick()", x.tick(), 9);
        CHECK.due("word(1, 0)", x.word(1, 0), 5);
        CHECK.due("word(1, 1)", x.word(1, 1), 0);
        CHECK.due("waiting(0)", x.waiting(0), 2);
        CHECK.due("forwarded(0)", x.forwarded(0), 1);
        CHECK.due("undo() of post", x.undo(), 4);
        CHECK.due("waiting(0)", x.waiting(0), 1);
        CHECK.due("undo() of configure", x.undo(), 3);
        CHECK.due("waiting(0)", x.waiting(0), 0);
        CHECK.due("tagState(0, 0)", x.tagState(0, 0), 0);
        CHECK.due("undo() of release", x.undo(), 2);
        CHECK.due("tagState(0, 0)", x.tagState(0, 0), 2);
        CHECK.due("data(0, 0, 0)", x.data(0, 0, 0), 5);
        CHECK.due("undo() of run", x.undo(), 1);
        CHECK.due("tick()", x.tick(), 0);
        CHECK.due("tagState(0, 0)", x.tagState(0, 0), 1);
        CHECK.due("stored(0, 0)", x.stored(0, 0), 0);
        CHECK.due("forwarded(0)", x.forwarded(0), 0);
        CHECK.due("undo() of read", x.undo(), 0);
        CHECK.due("tagState(0, 0)", x.tagState(0, 0), 0);
        CHECK.due("undo()", x.undo(), -1);
        CHECK.due("undo()", x.undo(), -1);
    }

    private static void undoOfDataAndPassings() {
        BusBridge x = Check.bridge("word 1 0 5; word 1 1 6; word 1 14 7; word 1 15 8; credit 1 2 0; tags 8;");
        for (int tag = 0; tag < 7; tag++) {
            x.configure(1, 0, 0, false);
            x.run(9);
        }
        x.configure(0, 0, 0, false);
        x.read(0, 0, 2, false);
        // The configuration write stays, and is passed by the read and by a completion.
        CHECK.due("read from side 1 with the last tag", x.read(1, 0, 1, false), 7);
        x.run(9);
        CHECK.due("passings(0)", x.passings(0), 2);
        x.saveSnapshot(0);
        x.release(0, 1);
        x.read(0, 14, 2, false);
        x.run(9);
        CHECK.due("passings(0)", x.passings(0), 3);
        CHECK.due("data(0, 1, 1)", x.data(0, 1, 1), 8);
        for (int i = 0; i < 3; i++) {
            x.undo();
        }
        CHECK.due("passings(0)", x.passings(0), 2);
        CHECK.due("data(0, 1, 0)", x.data(0, 1, 0), 5);
        CHECK.due("data(0, 1, 1)", x.data(0, 1, 1), 6);
        x.release(0, 1);
        x.read(0, 14, 2, false);
        x.run(9);
        x.restoreSnapshot(0);
        CHECK.due("passings(0)", x.passings(0), 2);
        CHECK.due("data(0, 1, 1)", x.data(0, 1, 1), 6);
    }

    private static void tenChanges() {
        BusBridge x = new BusBridge();
        for (int i = 0; i < 13; i++) {
            x.run(1);
        }
        for (int i = 9; i >= 0; i--) {
            CHECK.due("undo()", x.undo(), i);
            CHECK.due("tick()", x.tick(), 3 + i);
        }
        CHECK.due("undo()", x.undo(), -1);
        CHECK.due("tick()", x.tick(), 3);
    }

    private static void undoAndGoOn() {
        BusBridge x = new BusBridge();
        for (int i = 0; i < 12; i++) {
            x.run(10);
        }
        x.undo();
        x.undo();
        CHECK.due("tick()", x.tick(), 100);
        x.run(1);
        x.run(1);
        x.run(1);
        CHECK.due("undo()", x.undo(), 9);
        CHECK.due("tick()", x.tick(), 102);
        for (int i = 8; i >= 7; i--) {
            CHECK.due("undo()", x.undo(), i);
        }
        CHECK.due("tick()", x.tick(), 100);
        for (int i = 6; i >= 0; i--) {
            CHECK.due("undo()", x.undo(), i);
        }
        CHECK.due("tick()", x.tick(), 30);
        CHECK.due("undo()", x.undo(), -1);
    }

    private static void snapshots() {
        BusBridge x = new BusBridge();
        CHECK.badState("restoreSnapshot(0)", () -> x.restoreSnapshot(0));
        CHECK.badState("restoreSnapshot(1)", () -> x.restoreSnapshot(1));
        x.run(5);
        x.post(0, 3, 2, 8, false);
        CHECK.due("saveSnapshot(0)", x.saveSnapshot(0), false);
        CHECK.badState("restoreSnapshot(1)", () -> x.restoreSnapshot(1));
        x.run(5);
        CHECK.due("saveSnapshot(1)", x.saveSnapshot(1), false);
        CHECK.due("word(1, 4)", x.word(1, 4), 9);
        CHECK.due("restoreSnapshot(0)", x.restoreSnapshot(0), 5);
        CHECK.due("word(1, 4)", x.word(1, 4), 0);
        CHECK.due("waiting(0)", x.waiting(0), 1);
        CHECK.due("forwarded(0)", x.forwarded(0), 0);
        x.run(1);
        CHECK.due("restoreSnapshot(0) again", x.restoreSnapshot(0), 5);
        CHECK.due("waiting(0)", x.waiting(0), 1);
        CHECK.due("restoreSnapshot(1)", x.restoreSnapshot(1), 10);
        CHECK.due("word(1, 4)", x.word(1, 4), 9);
        CHECK.due("forwarded(0)", x.forwarded(0), 1);
        CHECK.due("saveSnapshot(0) in place of one", x.saveSnapshot(0), true);
        CHECK.due("restoreSnapshot(0)", x.restoreSnapshot(0), 10);
    }

    private static void snapshotAndHistory() {
        BusBridge x = new BusBridge();
        x.run(1);
        x.run(1);
        x.saveSnapshot(1);
        CHECK.due("saveSnapshot is no change", x.undo(), 1);
        CHECK.due("tick()", x.tick(), 1);
        CHECK.due("undo leaves snapshots alone", x.restoreSnapshot(1), 2);
        CHECK.due("the history is cleared", x.undo(), -1);
        x.run(1);
        CHECK.badState("restoreSnapshot(0)", () -> x.restoreSnapshot(0));
        CHECK.due("undo() after a throw", x.undo(), 0);
        CHECK.due("tick()", x.tick(), 2);
    }

    private static void wrongInputs() {
        BusBridge x = new BusBridge();
        int[] slots = {-1, 2, Integer.MIN_VALUE, Integer.MAX_VALUE};
        for (int slot : slots) {
            CHECK.outOfBounds("saveSnapshot", () -> x.saveSnapshot(slot));
            CHECK.outOfBounds("restoreSnapshot", () -> x.restoreSnapshot(slot));
        }
    }
}
