/** The boundary cases of promises 27 to 34, and of what the description says of changes. */
final class ChangeEdges {
    private static final int MAX = Integer.MAX_VALUE;
    private static final int MIN = Integer.MIN_VALUE;
    private static final int[] NO_SIDES = {-1, 2, 3, MIN, MAX};
    /** Addresses and numbers of words that do not fit together. */
    private static final int[][] WRONG_RANGES = {
        {-1, 1}, {16, 1}, {17, 1}, {MIN, 1}, {MAX, 1}, {0, 0}, {0, 5}, {0, -1}, {0, MIN}, {0, MAX}, {15, 2}, {14, 3}, {13, 4},
        {12, 5}, {15, 0}, {16, 0}, {16, -1}, {-1, 2}, {-4, 4}, {MAX, MAX}, {MIN, MIN}, {MAX, 4}, {1, MAX}, {MIN, 4},
    };

    private final Edges e;

    private ChangeEdges(Edges e) {
        this.e = e;
    }

    static void all(Edges e) {
        ChangeEdges t = new ChangeEdges(e);
        t.run();
        t.lastTick();
        t.post();
        t.read();
        t.configure();
        t.release();
        t.changes();
        t.tenChanges();
        t.undo();
        t.undoneData();
        t.snapshots();
        t.restoring();
        t.parseRestoresAll();
        t.refusedCalls();
        t.checkedBeforeAnyOther();
        t.quietCalls();
    }

    /** For a bridge of three tags: side 0 has tags in all states; snapshots, history and input are in use. */
    static void busy(BusBridge x) {
        work(x);
        Check.parse(x, "tags 9;");
        Check.append(x, "word 0 0 5; tags 2;");
    }

    /** The same with an empty input. */
    static void work(BusBridge x) {
        x.read(0, 2, 2, false);
        x.run(20);
        x.post(1, 7, 2, 70, false);
        x.saveSnapshot(0);
        x.run(2);
        x.configure(1, 0, 3, true);
        x.read(1, 5, 3, false);
        x.post(0, 1, 4, 11, false);
        x.post(0, 2, 1, 12, true);
        x.configure(0, 4, 13, false);
        x.run(1);
        x.saveSnapshot(1);
        x.run(1);
        x.post(1, 1, 1, 14, false);
    }

    private void run() {
        e.says(27, "Does some ticks.");
        BusBridge one = Check.bridge("tags 3; split 1; latency 1 4; credit 1 0 1; word 0 5 6;");
        BusBridge many = Check.bridge("tags 3; split 1; latency 1 4; credit 1 0 1; word 0 5 6;");
        busy(one);
        busy(many);
        int forwarded = 0;
        for (int i = 0; i < 40; i++) {
            forwarded += one.run(1);
        }
        e.due("run(40) forwards as many as 40 times run(1)", many.run(40), forwarded);
        e.dueText("and all is the same", Look.at(many), Look.at(one));
        e.says(27, "- `ticks`: 1 to 300");
        BusBridge x = new BusBridge();
        e.due("run(1)", x.run(1), 0);
        e.due("tick()", x.tick(), 1);
        e.due("run(300)", x.run(300), 0);
        e.due("tick()", x.tick(), 301);
        e.due("run(299)", x.run(299), 0);
        e.due("tick()", x.tick(), 600);
        e.says(27, "Throws `IllegalArgumentException` if ticks is out of range (checked first)");
        int[] wrong = {0, -1, 301, 302, 9999, MIN, MAX, -300};
        for (int ticks : wrong) {
            e.badArgument("run(" + ticks + ")", () -> x.run(ticks));
            BusBridge last = new BusBridge();
            Edges.runTo(last, 9999);
            e.badArgument("run(" + ticks + ") in the last tick", () -> last.run(ticks));
        }
        e.says(27, "Returns the number of transactions that were forwarded in them.");
        BusBridge y = Check.bridge("credit 0 0 8; credit 1 0 8; buffer 0 0 8; buffer 1 0 8; latency 0 0; latency 1 0;");
        e.due("run(5) of nothing", y.run(5), 0);
        for (int i = 0; i < 8; i++) {
            y.post(0, 0, 1, 1, false);
            y.post(1, 0, 1, 1, false);
        }
        e.due("run(3)", y.run(3), 6);
        e.due("run(1)", y.run(1), 2);
        e.due("run(300)", y.run(300), 8);
        e.due("run(300)", y.run(300), 0);
        y.undo();
        y.undo();
        e.due("run(2) after undo counts its own ticks alone", y.run(2), 4);
    }

    private void lastTick() {
        e.says(27, "Throws `IllegalStateException` if the number of the tick would exceed 9999");
        BusBridge x = new BusBridge();
        Edges.runTo(x, 9699);
        e.due("run(300) from 9699", x.run(300), 0);
        e.due("tick()", x.tick(), 9999);
        int[] all = {1, 2, 150, 299, 300};
        for (int ticks : all) {
            e.badState("run(" + ticks + ") in 9999", () -> x.run(ticks));
        }
        BusBridge y = new BusBridge();
        Edges.runTo(y, 9700);
        e.badState("run(300) from 9700", () -> y.run(300));
        e.due("tick()", y.tick(), 9700);
        e.due("run(299) from 9700", y.run(299), 0);
        BusBridge z = new BusBridge();
        Edges.runTo(z, 9998);
        e.badState("run(2) from 9998", () -> z.run(2));
        e.due("run(1) from 9998", z.run(1), 0);
        e.badState("run(1) from 9999", () -> z.run(1));
        // All other changes go on in the last tick.
        e.due("post", z.post(0, 0, 1, 1, false), 1);
        e.due("read", z.read(0, 0, 1, false), 0);
        e.due("undo()", z.undo(), 9);
    }

    private interface Issue {
        int with(int side, int address, int words);
    }

    /** What address and words may be, for post and for read. */
    private void ranges(String name, Issue issue, BusBridge x) {
        for (int words = 1; words <= 4; words++) {
            for (int address = 0; address < 16; address++) {
                int a = address;
                int w = words;
                if (address + words <= 16) {
                    issue.with(0, a, w);
                    x.undo();
                    issue.with(1, a, w);
                    x.undo();
                } else {
                    e.badArgument(name + "(0, " + a + ", " + w + ")", () -> issue.with(0, a, w));
                    e.badArgument(name + "(1, " + a + ", " + w + ")", () -> issue.with(1, a, w));
                }
            }
        }
        for (int[] pair : WRONG_RANGES) {
            e.badArgument(name + "(0, " + pair[0] + ", " + pair[1] + ")", () -> issue.with(0, pair[0], pair[1]));
            e.badArgument(name + "(1, " + pair[0] + ", " + pair[1] + ")", () -> issue.with(1, pair[0], pair[1]));
        }
    }

    private void noSide(String name, Issue issue) {
        for (int side : NO_SIDES) {
            e.outOfBounds(name + "(" + side + ", 0, 1)", () -> issue.with(side, 0, 1));
            for (int[] pair : WRONG_RANGES) {
                e.outOfBounds(name + " of a wrong side and a wrong range", () -> issue.with(side, pair[0], pair[1]));
            }
        }
    }

    private void post() {
        e.says(28, "Issues a posted write from a side; it comes into the bridge at once.");
        BusBridge x = new BusBridge();
        x.post(1, 0, 1, 1, false);
        e.due("waiting(1) without a tick", x.waiting(1), 1);
        e.due("kindAt(1, 0)", x.kindAt(1, 0), 0);
        e.says(28, "- `address`: first address on the other side, 0 to 15");
        e.says(28, "- `words`: 1 to 4; address + words is at most 16");
        e.says(28, "Throws `IllegalArgumentException` if address or words is out of range (checked second)");
        BusBridge free = new BusBridge();
        ranges("post", (side, address, words) -> free.post(side, address, words, 1, false), free);
        BusBridge full = Check.bridge("buffer 0 0 1; buffer 1 0 1;");
        full.post(0, 0, 1, 1, false);
        full.post(1, 0, 1, 1, false);
        for (int[] pair : WRONG_RANGES) {
            e.badArgument("post without room and with a wrong range", () -> full.post(0, pair[0], pair[1], 1, false));
            e.badArgument("post without room and with a wrong range", () -> full.post(1, pair[0], pair[1], 1, true));
        }
        e.says(28, "Throws `IndexOutOfBoundsException` if there is no such side (checked first)");
        noSide("post", (side, address, words) -> full.post(side, address, words, 1, false));
        e.says(28, "- `value`: any number");
        int[] values = {0, 1, -1, MIN, MAX};
        for (int value : values) {
            BusBridge y = new BusBridge();
            e.due("post of " + value, y.post(0, 15, 1, value, false), 1);
            y.run(3);
            e.due("word(1, 15)", y.word(1, 15), value);
        }
        e.says(28, "Returns the number of transactions that wait from this side then.");
        BusBridge z = new BusBridge();
        z.read(0, 0, 1, false);
        z.configure(0, 0, 1, false);
        z.post(1, 0, 1, 1, false);
        for (int i = 0; i < 4; i++) {
            e.due("post", z.post(0, 0, 1, 1, false), 3 + i);
        }
        e.says(28, "Throws `IllegalStateException` if there is no room in the buffer");
        e.badState("post", () -> z.post(0, 0, 1, 1, false));
        e.badState("a relaxed post", () -> z.post(0, 12, 4, MAX, true));
        e.due("post from the other side", z.post(1, 0, 1, 1, false), 2);
        z.run(3);
        e.due("post when one has gone on", z.post(0, 0, 1, 1, false), z.waiting(0));
        for (int size = 1; size <= 8; size++) {
            BusBridge w = Check.bridge("buffer 1 0 " + size + ";");
            for (int i = 1; i <= size; i++) {
                e.due("post", w.post(1, 0, 1, 1, false), i);
            }
            e.badState("post into the full buffer", () -> w.post(1, 0, 1, 1, false));
            e.due("waiting(1)", w.waiting(1), size);
        }
    }

    private void read() {
        e.says(29, "Issues a read from a side; it comes into the bridge at once.");
        BusBridge x = new BusBridge();
        x.read(1, 0, 1, false);
        e.due("waiting(1) without a tick", x.waiting(1), 1);
        e.due("kindAt(1, 0)", x.kindAt(1, 0), 1);
        e.says(29, "- `address`: first address on the other side, 0 to 15");
        e.says(29, "- `words`: 1 to 4; address + words is at most 16");
        e.says(29, "Throws `IllegalArgumentException` if address or words is out of range (checked second)");
        BusBridge free = new BusBridge();
        ranges("read", (side, address, words) -> free.read(side, address, words, false), free);
        BusBridge full = Check.bridge("buffer 0 1 1; tags 1;");
        full.read(0, 0, 1, false);
        for (int[] pair : WRONG_RANGES) {
            e.badArgument("read without room or tag and with a wrong range", () -> full.read(0, pair[0], pair[1], false));
        }
        e.says(29, "Throws `IndexOutOfBoundsException` if there is no such side (checked first)");
        noSide("read", (side, address, words) -> full.read(side, address, words, true));
        e.says(29, "Returns the tag, the lowest free one; it is pending then.");
        lowestTag(true);
        e.says(29, "Throws `IllegalStateException` if there is no room in the buffer or no free tag");
        roomAndTags(true);
    }

    private void configure() {
        e.says(30, "Issues a configuration write of one word from a side; it comes into the bridge at once.");
        BusBridge x = new BusBridge();
        x.configure(1, 0, 1, false);
        e.due("waiting(1) without a tick", x.waiting(1), 1);
        e.due("kindAt(1, 0)", x.kindAt(1, 0), 2);
        x.run(9);
        e.due("word(0, 0)", x.word(0, 0), 1);
        e.due("word(0, 1)", x.word(0, 1), 0);
        e.says(30, "- `address`: address on the other side, 0 to 15");
        e.says(30, "Throws `IllegalArgumentException` if address is out of range (checked second)");
        BusBridge free = new BusBridge();
        for (int address = 0; address < 16; address++) {
            e.due("configure", free.configure(address % 2, address, 1, false), 0);
            free.undo();
        }
        BusBridge full = Check.bridge("buffer 0 2 1; tags 1;");
        full.configure(0, 0, 1, false);
        int[] wrong = {-1, 16, 17, MIN, MAX, -16, 31, 32};
        for (int address : wrong) {
            e.badArgument("configure(0, " + address + ")", () -> free.configure(0, address, 1, false));
            e.badArgument("configure(1, " + address + ")", () -> free.configure(1, address, 1, true));
            e.badArgument("configure without room or tag and with a wrong address", () -> full.configure(0, address, 1, false));
        }
        e.says(30, "Throws `IndexOutOfBoundsException` if there is no such side (checked first)");
        noSide("configure", (side, address, words) -> full.configure(side, address, words, false));
        e.says(30, "- `value`: any number");
        int[] values = {0, 1, -1, MIN, MAX};
        for (int value : values) {
            BusBridge y = new BusBridge();
            e.due("configure with " + value, y.configure(0, 15, value, false), 0);
            y.run(3);
            e.due("word(1, 15)", y.word(1, 15), value);
        }
        e.says(30, "Returns the tag, the lowest free one; it is pending then.");
        lowestTag(false);
        e.says(30, "Throws `IllegalStateException` if there is no room in the buffer or no free tag");
        roomAndTags(false);
    }

    private static int request(BusBridge x, int side, boolean isRead) {
        return isRead ? x.read(side, 0, 1, false) : x.configure(side, 0, 1, false);
    }

    private void lowestTag(boolean isRead) {
        for (int side = 0; side < 2; side++) {
            BusBridge x = Check.bridge("tags 8; buffer " + side + " 1 8; buffer " + side + " 2 8;");
            for (int tag = 0; tag < 8; tag++) {
                e.due("the next tag", request(x, side, isRead), tag);
                e.due("it is pending", x.tagState(side, tag), 1);
            }
            x.run(90);
            x.release(side, 7);
            x.release(side, 3);
            x.release(side, 5);
            e.due("the lowest free tag", request(x, side, isRead), 3);
            e.due("the lowest free tag", request(x, side, isRead), 5);
            x.run(30);
            x.release(side, 0);
            e.due("the lowest free tag", request(x, side, isRead), 0);
            e.due("the lowest free tag", request(x, side, isRead), 7);
            x.undo();
            e.due("a tag that is free by undo", request(x, side, isRead), 7);
        }
    }

    private void roomAndTags(boolean isRead) {
        int kind = isRead ? 1 : 2;
        for (int size = 1; size <= 8; size++) {
            BusBridge x = Check.bridge("tags 8; buffer 0 " + kind + " " + size + ";");
            for (int i = 0; i < size; i++) {
                e.due("a request with room and tag", request(x, 0, isRead), i);
            }
            e.badState("without room, or without both", () -> request(x, 0, isRead));
            e.due("waiting(0)", x.waiting(0), size);
            x.run(1);
            if (size < 8) {
                e.due("with room again", request(x, 0, isRead), size);
            } else {
                e.badState("with room, without a tag", () -> request(x, 0, isRead));
            }
        }
        for (int many = 1; many <= 8; many++) {
            BusBridge x = Check.bridge("buffer 0 " + kind + " 8; tags " + many + ";");
            for (int i = 0; i < many; i++) {
                e.due("a request with a tag", request(x, 0, isRead), i);
            }
            e.badState("without a tag", () -> request(x, 0, isRead));
            x.run(90);
            e.badState("complete tags are not free", () -> request(x, 0, isRead));
            e.due("the other side has its own tags", request(x, 1, isRead), 0);
            int last = many - 1;
            x.release(0, last);
            e.due("with a tag again", request(x, 0, isRead), last);
        }
        // The tags are for both kinds of requests, the room is not.
        BusBridge y = Check.bridge("buffer 0 1 1; buffer 0 2 1; tags 2;");
        request(y, 0, !isRead);
        e.due("it has its own room", request(y, 0, isRead), 1);
        y.run(2);
        e.badState("but no tag of its own", () -> request(y, 0, isRead));
    }

    private void release() {
        e.says(31, "Releases a complete tag; it is free then, and its data is gone.");
        BusBridge x = Check.bridge("tags 8; buffer 0 1 8; word 1 0 5;");
        for (int i = 0; i < 8; i++) {
            x.read(0, 0, 1 + i % 4, false);
        }
        x.run(90);
        e.says(31, "Returns the number of words that were stored for it.");
        for (int i = 7; i >= 0; i--) {
            int tag = i;
            e.due("release(0, " + tag + ")", x.release(0, tag), 1 + tag % 4);
            e.due("tagState", x.tagState(0, tag), 0);
            e.due("stored", x.stored(0, tag), 0);
            e.badState("data", () -> x.data(0, tag, 0));
            e.due("completeTick", x.completeTick(0, tag), -1);
            for (int k = 0; k < tag; k++) {
                e.due("the others stay complete", x.tagState(0, k), 2);
            }
        }
        x.configure(0, 0, 1, false);
        x.run(9);
        e.due("release of a configuration write", x.release(0, 0), 0);
        e.says(31, "Throws `IllegalStateException` if the tag is not complete");
        BusBridge y = Check.bridge("tags 2; split 1; latency 0 0; latency 1 0;");
        e.badState("release of a free tag", () -> y.release(0, 0));
        y.read(0, 0, 2, false);
        for (int tick = 0; tick < 4; tick++) {
            e.badState("release of a pending tag in " + tick, () -> y.release(0, 0));
            e.badState("release of the other side's tag", () -> y.release(1, 0));
            y.run(1);
        }
        e.due("release in 4", y.release(0, 0), 2);
        e.badState("release again", () -> y.release(0, 0));
    }

    private void changes() {
        e.says(0, "The methods from run to release are changes if they succeed.");
        BusBridge x = Check.bridge("tags 1; buffer 0 0 1;");
        int changes = 0;
        x.run(1);
        changes++;
        x.post(0, 0, 1, 1, false);
        changes++;
        x.read(0, 0, 1, false);
        changes++;
        x.run(20);
        changes++;
        x.release(0, 0);
        changes++;
        x.configure(0, 0, 1, false);
        changes++;
        // None of these is one.
        e.badState("configure", () -> x.configure(0, 0, 1, false));
        e.badArgument("run(0)", () -> x.run(0));
        e.badState("release(1, 0)", () -> x.release(1, 0));
        x.saveSnapshot(0);
        x.ticksToRest();
        x.append(0, 0, 0, 0, 0);
        x.parse(20);
        while (changes > 0) {
            changes--;
            e.due("undo()", x.undo(), changes);
        }
        e.due("undo()", x.undo(), -1);
        e.due("tick()", x.tick(), 0);
    }

    private void tenChanges() {
        e.says(0, "The latest 10 changes can be undone, the latest first.");
        for (int many = 0; many <= 25; many++) {
            BusBridge x = new BusBridge();
            for (int i = 0; i < many; i++) {
                x.run(1 + i);
            }
            int tick = x.tick();
            int last = Math.max(0, many - 10);
            for (int i = many - 1; i >= last; i--) {
                e.due("undo() of " + many, x.undo(), i - last);
                tick -= 1 + i;
                e.due("tick()", x.tick(), tick);
            }
            e.due("undo() of none", x.undo(), -1);
            e.due("tick()", x.tick(), tick);
        }
    }

    private void undo() {
        e.says(32, "Undoes the latest change that has not been undone.");
        // Every kind of change: afterwards everything is as it was before.
        Edges.Play[] plays = {
            x -> x.run(1), x -> x.run(7), x -> x.run(300), x -> x.post(1, 12, 4, MAX, true), x -> x.read(0, 12, 4, true),
            x -> x.configure(0, 15, MIN, false), x -> x.release(0, 0),
        };
        for (Edges.Play play : plays) {
            BusBridge x = Check.bridge("tags 5; split 1; latency 1 4; credit 1 0 1; word 0 5 6;");
            busy(x);
            String before = Look.at(x);
            play.on(x);
            String after = Look.at(x);
            e.due("something has changed", before.equals(after), false);
            int left = x.undo();
            e.dueText("everything is as before", Look.at(x), before);
            play.on(x);
            e.dueText("and done again, as after", Look.at(x), after);
            e.due("undo() again", x.undo(), left);
            e.dueText("everything is as before", Look.at(x), before);
        }
        e.says(32, "Returns the number of changes that can still be undone; NONE if there was none to undo.");
        BusBridge x = new BusBridge();
        e.due("undo() of a new object", x.undo(), -1);
        x.run(1);
        e.due("undo() of the only one", x.undo(), 0);
        e.due("undo() of none", x.undo(), -1);
        // Changes after an undo take the place of what was undone.
        for (int i = 0; i < 15; i++) {
            x.run(10);
        }
        for (int i = 9; i >= 6; i--) {
            e.due("undo()", x.undo(), i);
        }
        e.due("tick()", x.tick(), 110);
        for (int i = 0; i < 3; i++) {
            x.run(1);
        }
        for (int i = 8; i >= 0; i--) {
            e.due("undo()", x.undo(), i);
        }
        e.due("tick()", x.tick(), 50);
        e.due("undo()", x.undo(), -1);
        e.due("tick()", x.tick(), 50);
        x.run(1);
        e.due("undo()", x.undo(), 0);
    }

    /** All tags have four words, which are released and read anew from other addresses, then come back. */
    private void undoneData() {
        String text = "tags 8; buffer 0 1 8; latency 0 0; latency 1 0;";
        for (int address = 0; address < 16; address++) {
            text += "word 1 " + address + " " + (100 + address) + ";";
        }
        for (int tag = 0; tag < 8; tag++) {
            BusBridge x = Check.bridge(text);
            for (int i = 0; i < 8; i++) {
                x.read(0, i, 4, false);
            }
            x.run(60);
            x.saveSnapshot(1);
            for (int times = 0; times < 2; times++) {
                x.release(0, tag);
                e.due("the tag again", x.read(0, 12, 4, false), tag);
                x.run(9);
                for (int index = 0; index < 4; index++) {
                    e.due("data of the new read", x.data(0, tag, index), 112 + index);
                }
                if (times == 0) {
                    x.undo();
                    x.undo();
                    x.undo();
                } else {
                    x.restoreSnapshot(1);
                }
                for (int index = 0; index < 4; index++) {
                    e.due("data of the old read", x.data(0, tag, index), 100 + tag + index);
                }
            }
        }
    }

    private void snapshots() {
        e.says(33, "Saves a snapshot in a slot, in place of an earlier one.");
        e.says(33, "- `slot`: 0 or 1");
        e.says(33, "Returns whether there was an earlier one.");
        for (int slot = 0; slot < 2; slot++) {
            BusBridge x = new BusBridge();
            e.due("saveSnapshot, first", x.saveSnapshot(slot), false);
            e.due("saveSnapshot, second", x.saveSnapshot(slot), true);
            x.run(5);
            e.due("saveSnapshot, third", x.saveSnapshot(slot), true);
            e.due("saveSnapshot of the other slot", x.saveSnapshot(1 - slot), false);
            x.run(5);
            e.due("the latest one is there", x.restoreSnapshot(slot), 5);
            e.due("restoring keeps it", x.saveSnapshot(slot), true);
            x.parse(0);
            e.due("saveSnapshot after a parse", x.saveSnapshot(slot), false);
        }
        e.says(33, "Throws `IndexOutOfBoundsException` if there is no such slot");
        BusBridge y = new BusBridge();
        int[] none = {-1, 2, 3, MIN, MAX};
        for (int slot : none) {
            e.outOfBounds("saveSnapshot(" + slot + ")", () -> y.saveSnapshot(slot));
        }
        e.says(34, "Throws `IndexOutOfBoundsException` if there is no such slot (checked first)");
        for (int slot : none) {
            e.outOfBounds("restoreSnapshot(" + slot + ")", () -> y.restoreSnapshot(slot));
        }
        y.saveSnapshot(0);
        y.saveSnapshot(1);
        for (int slot : none) {
            e.outOfBounds("restoreSnapshot(" + slot + ")", () -> y.restoreSnapshot(slot));
        }
    }

    private void restoring() {
        e.says(34, "Restores the snapshot of a slot, which stays stored.");
        e.says(34, "- `slot`: 0 or 1");
        e.says(0, "There are two snapshot slots, 0 and 1; a snapshot holds everything that changes can change.");
        for (int slot = 0; slot < 2; slot++) {
            BusBridge x = Check.bridge("tags 3; split 1; latency 1 4; credit 1 0 1; word 0 5 6;");
            busy(x);
            x.saveSnapshot(slot);
            String saved = Look.at(x);
            for (int i = 0; i < 3; i++) {
                x.run(300);
                x.release(0, 0);
                x.post(0, 0, 4, 9, false);
                x.run(4);
                e.due("something has changed", Look.at(x).equals(saved), false);
                x.restoreSnapshot(slot);
                e.dueText("everything is as it was saved", Look.at(x), saved);
            }
        }
        e.says(34, "Returns the number of the tick then.");
        BusBridge x = new BusBridge();
        x.saveSnapshot(0);
        Edges.runTo(x, 9999);
        x.saveSnapshot(1);
        e.due("restoreSnapshot(0)", x.restoreSnapshot(0), 0);
        e.due("restoreSnapshot(1)", x.restoreSnapshot(1), 9999);
        e.due("tick()", x.tick(), 9999);
        e.says(34, "The undo history is cleared.");
        BusBridge y = new BusBridge();
        y.run(1);
        y.saveSnapshot(0);
        y.run(1);
        y.restoreSnapshot(0);
        e.due("undo()", y.undo(), -1);
        e.due("tick()", y.tick(), 1);
        y.run(1);
        e.due("undo()", y.undo(), 0);
        e.says(34, "Throws `IllegalStateException` if the slot is empty");
        BusBridge z = new BusBridge();
        z.run(3);
        for (int slot = 0; slot < 2; slot++) {
            int s = slot;
            e.badState("restoreSnapshot of an empty slot", () -> z.restoreSnapshot(s));
        }
        z.saveSnapshot(1);
        e.badState("restoreSnapshot(0)", () -> z.restoreSnapshot(0));
        e.due("the history is still there", z.undo(), 0);
        e.due("restoreSnapshot(1)", z.restoreSnapshot(1), 3);
        z.parse(0);
        e.badState("restoreSnapshot(1) after a parse", () -> z.restoreSnapshot(1));
    }

    private void parseRestoresAll() {
        e.says(0, "A successful parse restores the initial situation (tick 0, nothing waits or is held, all tags are free), "
                + "clears the undo history and empties both slots.");
        String text = "tags 3; split 1; latency 1 4; credit 1 0 1; word 0 5 6;";
        BusBridge x = Check.bridge(text);
        busy(x);
        x.parse(0);
        e.dueText("everything is as at first", Look.through(x), Look.through(new BusBridge()));
        BusBridge y = Check.bridge(text);
        work(y);
        BusBridge fresh = Check.bridge(text);
        Check.parse(y, text);
        e.dueText("everything is as at first", Look.through(y), Look.through(fresh));
        // The figures begin anew too, those that are not seen before the next transaction goes on as well.
        for (int side = 0; side < 2; side++) {
            BusBridge z = Check.bridge("credit " + (1 - side) + " 1 0;");
            passAndWait(z, side);
            e.due("passings", z.passings(side), 2);
            e.dueDouble("averageWait", z.averageWait(side), 1.5f);
            z.parse(0);
            passAndWait(z, side);
            BusBridge first = new BusBridge();
            passAndWait(first, side);
            e.due("passings", z.passings(side), 0);
            e.dueText("all figures are as of a new object", Look.at(z), Look.at(first));
        }
    }

    /** A read and two writes from a side, and two ticks. */
    private static void passAndWait(BusBridge x, int side) {
        x.read(side, 0, 1, false);
        x.post(side, 0, 1, 1, false);
        x.post(side, 0, 1, 1, false);
        x.run(2);
    }

    private interface Refusals {
        void with(String call, Class<?> exception, Edges.Play refused);
    }

    private void refusedCalls() {
        e.says(0, "A method that throws an exception changes nothing.");
        Class<?> bounds = IndexOutOfBoundsException.class;
        Class<?> argument = IllegalArgumentException.class;
        Class<?> state = IllegalStateException.class;
        Edges.Play before = x -> {
            Check.parse(x, "tags 3; split 1; latency 1 4; credit 1 0 1; word 0 5 6; buffer 0 0 2; buffer 1 0 1; buffer 1 1 1; buffer 1 2 1;");
            busy(x);
            x.read(0, 0, 1, false);
            x.run(1);
            x.configure(1, 1, 1, false);
            x.post(0, 0, 1, 1, false);
            x.post(1, 0, 1, 1, false);
        };
        Refusals busy = (call, exception, refused) -> e.refused(call, exception, before, refused);
        busy.with("parse(-1)", argument, x -> x.parse(-1));
        busy.with("parse(21)", argument, x -> x.parse(21));
        refusedQuestions(busy, bounds, state);
        busy.with("run(0)", argument, x -> x.run(0));
        busy.with("run(301)", argument, x -> x.run(301));
        busy.with("post without room", state, x -> x.post(1, 0, 1, 1, false));
        busy.with("post without room", state, x -> x.post(0, 0, 4, 1, true));
        busy.with("read without a tag", state, x -> x.read(0, 0, 1, false));
        busy.with("configure without a tag", state, x -> x.configure(0, 0, 1, false));
        busy.with("configure without room", state, x -> x.configure(1, 0, 1, false));
        for (int[] pair : WRONG_RANGES) {
            busy.with("post with a wrong range", argument, x -> x.post(0, pair[0], pair[1], 1, false));
            busy.with("read with a wrong range", argument, x -> x.read(1, pair[0], pair[1], false));
        }
        busy.with("configure with a wrong address", argument, x -> x.configure(0, 16, 1, false));
        busy.with("configure with a wrong address", argument, x -> x.configure(1, -1, 1, false));
        for (int side : NO_SIDES) {
            busy.with("post from no side", bounds, x -> x.post(side, 0, 1, 1, false));
            busy.with("read from no side", bounds, x -> x.read(side, 0, 1, false));
            busy.with("configure from no side", bounds, x -> x.configure(side, 0, 1, false));
            busy.with("release from no side", bounds, x -> x.release(side, 0));
        }
        busy.with("release of a pending tag", state, x -> x.release(0, 2));
        busy.with("release of no tag", bounds, x -> x.release(0, 3));
        busy.with("saveSnapshot(2)", bounds, x -> x.saveSnapshot(2));
        busy.with("saveSnapshot(-1)", bounds, x -> x.saveSnapshot(-1));
        busy.with("restoreSnapshot(2)", bounds, x -> x.restoreSnapshot(2));
        busy.with("restoreSnapshot(-1)", bounds, x -> x.restoreSnapshot(-1));
        refusedElsewhere(state);
    }

    private void refusedQuestions(Refusals busy, Class<?> bounds, Class<?> state) {
        busy.with("mayPass(4, 0)", bounds, x -> x.mayPass(4, 0, false));
        busy.with("holds(0, 4)", bounds, x -> x.holds(0, 4));
        busy.with("waiting(2)", bounds, x -> x.waiting(2));
        busy.with("kindAt(0, 24)", bounds, x -> x.kindAt(0, 24));
        busy.with("tagAt(0, -1)", bounds, x -> x.tagAt(0, -1));
        busy.with("blockers(0, 24)", bounds, x -> x.blockers(0, 24));
        busy.with("next(-1)", bounds, x -> x.next(-1));
        busy.with("held(0, 4)", bounds, x -> x.held(0, 4));
        busy.with("word(0, 16)", bounds, x -> x.word(0, 16));
        busy.with("tagState(0, 3)", bounds, x -> x.tagState(0, 3));
        busy.with("stored(0, 3)", bounds, x -> x.stored(0, 3));
        busy.with("data(0, 3, 0)", bounds, x -> x.data(0, 3, 0));
        busy.with("data(0, 0, 2)", state, x -> x.data(0, 0, 2));
        busy.with("forwarded(2)", bounds, x -> x.forwarded(2));
        busy.with("passings(2)", bounds, x -> x.passings(2));
        busy.with("utilisation(2)", bounds, x -> x.utilisation(2));
        busy.with("averageWait(2)", bounds, x -> x.averageWait(2));
        busy.with("completeTick(0, 3)", bounds, x -> x.completeTick(0, 3));
    }

    private void refusedElsewhere(Class<?> state) {
        Edges.Play late = x -> {
            Check.parse(x, "tags 3; credit 1 1 0;");
            Edges.runTo(x, 9990);
            x.post(0, 0, 4, 1, false);
            x.read(0, 0, 1, false);
            x.configure(1, 0, 1, false);
            x.run(1);
            x.saveSnapshot(1);
        };
        e.refused("run(9) past the last tick", state, late, x -> x.run(9));
        e.refused("run(300) past the last tick", state, late, x -> x.run(300));
        e.refused("restoreSnapshot(0) of an empty slot", state, late, x -> x.restoreSnapshot(0));
        Edges.Play narrow = x -> {
            Check.parse(x, "tags 8; buffer 0 1 1;");
            x.run(1);
            x.saveSnapshot(0);
            x.read(0, 0, 1, false);
            x.configure(0, 0, 1, false);
        };
        e.refused("read without room", state, narrow, x -> x.read(0, 0, 1, false));
        e.refused("release of a free tag", state, narrow, x -> x.release(0, 7));
        e.refused("data of a free tag", state, narrow, x -> x.data(0, 7, 0));
        e.refused("restoreSnapshot(1) of an empty slot", state, narrow, x -> x.restoreSnapshot(1));
        Edges.Play nothing = x -> {
        };
        e.refused("parse(1) of a new object", IllegalArgumentException.class, nothing, x -> x.parse(1));
        e.refused("restoreSnapshot(0) of a new object", state, nothing, x -> x.restoreSnapshot(0));
        e.refused("kindAt(0, 0) of a new object", IndexOutOfBoundsException.class, nothing, x -> x.kindAt(0, 0));
    }

    private void checkedBeforeAnyOther() {
        e.says(0, "Unless something else is said, a side, kind, position, tag, address or slot that does not exist causes an "
                + "IndexOutOfBoundsException, which is checked before any other exception.");
        BusBridge x = Check.bridge("tags 1; buffer 0 0 1;");
        x.post(0, 0, 1, 1, false);
        x.read(0, 0, 1, false);
        e.outOfBounds("post: side before range and room", () -> x.post(2, 99, 0, 1, false));
        e.outOfBounds("read: side before range, room and tag", () -> x.read(-1, -1, 9, false));
        e.outOfBounds("configure: side before address", () -> x.configure(2, 16, 1, false));
        e.badArgument("post: an address is an argument out of range", () -> x.post(0, 16, 1, 1, false));
        e.badArgument("read: an address is an argument out of range", () -> x.read(0, -1, 1, false));
        e.badArgument("configure: an address is an argument out of range", () -> x.configure(0, 16, 1, false));
        e.outOfBounds("release: tag before its state", () -> x.release(0, 1));
        e.outOfBounds("release: side before the tag's state", () -> x.release(2, 0));
        e.outOfBounds("data: tag before the word", () -> x.data(0, 1, 0));
        e.outOfBounds("data: side before the word", () -> x.data(2, 0, 0));
        e.outOfBounds("restoreSnapshot: slot before its being empty", () -> x.restoreSnapshot(2));
    }

    private void quietCalls() {
        Edges.Play before = x -> {
            Check.parse(x, "tags 3; split 1; latency 1 4; credit 1 0 1; word 0 5 6;");
            busy(x);
        };
        e.changesNothing("all that is asked", before, x -> Look.at(x));
        e.changesNothing("undo() of a change that is done again", before, x -> {
            x.undo();
            x.post(1, 1, 1, 14, false);
        });
        e.changesNothing("an append to a full buffer", x -> Check.append(x, " ".repeat(600)), x -> x.append(-1, -1, -1, -1, -1));
        e.changesNothing("undo() of nothing", x -> Check.parse(x, "tags 3;"), BusBridge::undo);
    }
}
