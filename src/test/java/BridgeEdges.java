/** The boundary cases of transactions, buffers, targets and ticks. */
final class BridgeEdges {
    private static final int MAX = Integer.MAX_VALUE;
    private static final int MIN = Integer.MIN_VALUE;

    private final Edges e;

    private BridgeEdges(Edges e) {
        this.e = e;
    }

    static void all(Edges e) {
        BridgeEdges t = new BridgeEdges(e);
        t.memory();
        t.postedWrites();
        t.configurationWrites();
        t.reads();
        t.relaxedCompletions();
        t.tagsOfASide();
        t.statesOfATag();
        t.orderOfComing();
        t.blocking();
        t.numberOfTheTick();
        t.orderOfWork();
        t.dueTicks();
        t.postedWriteIsDone();
        t.roomForConfigurationWrites();
        t.roomForReads();
        t.withoutRoom();
        t.completions();
        t.doneIsNotHeld();
        t.forwarding();
        t.oneAfterTheOtherInATick();
    }

    private void memory() {
        e.says(0, "Each side has 16 words of memory, with the addresses 0 to 15.");
        for (int i = 0; i < 32; i++) {
            BusBridge x = new BusBridge();
            int side = i / 16;
            x.post(1 - side, i % 16, 1, 77, false);
            x.run(9);
            for (int k = 0; k < 32; k++) {
                e.due("word", x.word(k / 16, k % 16), k == i ? 77 : 0);
            }
            e.outOfBounds("word(side, -1)", () -> x.word(side, -1));
            e.outOfBounds("word(side, 16)", () -> x.word(side, 16));
        }
    }

    private void postedWrites() {
        e.says(0, "A posted write writes its words to the memory of the other side: its value to its first address, "
                + "the value plus 1 to the next one, and so on.");
        int[] values = {0, -1, 9999, MAX, MAX - 1, MAX - 3, MIN, -2};
        for (int value : values) {
            for (int words = 1; words <= 4; words++) {
                for (int address = 0; address + words <= 16; address += words == 1 ? 5 : 16 - words) {
                    BusBridge x = new BusBridge();
                    x.post(1, address, words, value, false);
                    x.run(9);
                    for (int k = 0; k < 16; k++) {
                        boolean written = k >= address && k < address + words;
                        e.due("word", x.word(0, k), written ? value + (k - address) : 0);
                        e.due("word of its own side", x.word(1, k), 0);
                    }
                }
            }
        }
    }

    private void configurationWrites() {
        e.says(0, "A configuration write does the same, and is answered by one completion without data.");
        int[] values = {0, -1, MAX, MIN};
        for (int value : values) {
            for (int address = 0; address < 16; address += 5) {
                BusBridge x = Check.bridge("credit 1 3 0; split 1;");
                x.configure(1, address, value, false);
                x.run(9);
                for (int k = 0; k < 16; k++) {
                    e.due("word", x.word(0, k), k == address ? value : 0);
                }
                e.due("completions", x.waiting(0), 1);
                e.due("kindAt(0, 0)", x.kindAt(0, 0), 3);
            }
        }
        BusBridge x = new BusBridge();
        x.configure(1, 15, 5, false);
        x.run(9);
        e.due("tagState(1, 0)", x.tagState(1, 0), 2);
        e.due("stored(1, 0)", x.stored(1, 0), 0);
        e.badState("data(1, 0, 0)", () -> x.data(1, 0, 0));
        e.due("release(1, 0)", x.release(1, 0), 0);
    }

    private void reads() {
        e.says(0, "A read asks for words of the other side, and is answered by completions with data.");
        for (int split = 1; split <= 4; split++) {
            for (int words = 1; words <= 4; words++) {
                for (int address = 0; address + words <= 16; address += 16 - words) {
                    BusBridge x = Check.bridge("word 0 0 10; word 0 1 11; word 0 2 12; word 0 3 13; word 0 12 22;"
                            + "word 0 13 23; word 0 14 24; word 0 15 25; word 1 0 99; word 1 15 99; split " + split + ";");
                    int tag = x.read(1, address, words, false);
                    x.run(30);
                    e.due("stored", x.stored(1, tag), words);
                    for (int i = 0; i < words; i++) {
                        e.due("data", x.data(1, tag, i), address + i + 10);
                    }
                    e.badState("data behind the last word", () -> x.data(1, tag, x.stored(1, tag)));
                }
            }
        }
        e.says(0, "A completion answers a request of the other side.");
        BusBridge y = Check.bridge("credit 0 3 0; credit 1 3 0;");
        y.read(0, 0, 1, false);
        y.run(9);
        e.due("waiting(0)", y.waiting(0), 0);
        e.due("waiting(1)", y.waiting(1), 1);
        e.due("kindAt(1, 0)", y.kindAt(1, 0), 3);
    }

    private void relaxedCompletions() {
        e.says(0, "A transaction can be relaxed; a completion is relaxed if its request is.");
        for (int i = 0; i < 8; i++) {
            boolean relaxed = i % 2 == 1;
            int side = i / 2 % 2;
            boolean isRead = i / 4 == 1;
            // A write of the other side waits for ever before the completion.
            BusBridge x = Check.bridge("credit " + side + " 0 0; split 1;");
            x.post(1 - side, 0, 1, 5, !relaxed);
            int tag = isRead ? x.read(side, 0, 2, relaxed) : x.configure(side, 0, 1, relaxed);
            x.run(20);
            e.due("tagState", x.tagState(side, tag), relaxed ? 2 : 1);
            e.due("waiting", x.waiting(1 - side), relaxed ? 1 : isRead ? 3 : 2);
            if (!relaxed) {
                e.due("blockers", x.blockers(1 - side, 1), 1);
            }
        }
    }

    private void tagsOfASide() {
        e.says(0, "Reads and configuration writes have a tag, which is unique among those of their side.");
        BusBridge x = Check.bridge("word 0 0 5; word 1 0 6;");
        for (int tag = 0; tag < 4; tag++) {
            e.due("a tag of side 0", tag % 2 == 0 ? x.read(0, 0, 1, false) : x.configure(0, 9, 1, false), tag);
            e.due("the same tag of side 1", tag % 2 == 1 ? x.read(1, 0, 1, false) : x.configure(1, 9, 1, false), tag);
        }
        x.run(60);
        for (int tag = 0; tag < 4; tag++) {
            e.due("stored(0)", x.stored(0, tag), tag % 2 == 0 ? 1 : 0);
            e.due("stored(1)", x.stored(1, tag), tag % 2 == 1 ? 1 : 0);
        }
        e.due("data(0, 2, 0)", x.data(0, 2, 0), 6);
        e.due("data(1, 3, 0)", x.data(1, 3, 0), 5);
    }

    private void statesOfATag() {
        e.says(0, "A tag is free, pending (its request has been issued, and not all of its completions have been worked on), or complete.");
        // A read of four completions, each worked on in its own tick: 3, 4, 5 and 6.
        BusBridge x = Check.bridge("split 1; latency 1 0; latency 0 0;");
        e.due("tagState before", x.tagState(0, 0), 0);
        x.read(0, 0, 4, false);
        for (int tick = 0; tick < 6; tick++) {
            e.due("tagState in " + tick, x.tagState(0, 0), 1);
            e.due("stored in " + tick, x.stored(0, 0), Math.max(0, tick - 2));
            int t = tick;
            e.badState("release in " + tick, () -> x.release(0, 0));
            e.badState("data in " + tick, () -> x.data(0, 0, Math.max(0, t - 2)));
            x.run(1);
        }
        e.due("tagState in 6", x.tagState(0, 0), 2);
        e.due("stored in 6", x.stored(0, 0), 4);
        x.run(300);
        e.due("tagState stays", x.tagState(0, 0), 2);
        x.release(0, 0);
        e.due("tagState when released", x.tagState(0, 0), 0);
    }

    private void orderOfComing() {
        e.says(0, "The transactions that come from a side wait in the bridge in the order in which they came.");
        // Nothing goes on from side 1; the completion comes in tick 2, after the write and before the reads.
        BusBridge x = Check.bridge("credit 0 0 0; credit 0 1 0; credit 0 2 0; credit 0 3 0; latency 1 0;");
        x.post(1, 0, 1, 1, false);
        x.read(0, 0, 1, false);
        x.run(2);
        x.read(1, 0, 1, false);
        x.configure(1, 0, 1, false);
        x.post(1, 0, 1, 1, false);
        int[] kinds = {0, 3, 1, 2, 0};
        int[] tags = {-1, 0, 0, 1, -1};
        e.due("waiting(1)", x.waiting(1), 5);
        for (int i = 0; i < 5; i++) {
            e.due("kindAt(1, " + i + ")", x.kindAt(1, i), kinds[i]);
            e.due("tagAt(1, " + i + ")", x.tagAt(1, i), tags[i]);
        }
        // One that goes on from the middle, the first and the last place leaves the others in their order.
        goesOnFrom(0, new int[] {1, 2, 1});
        goesOnFrom(1, new int[] {0, 2, 0});
        goesOnFrom(2, new int[] {0, 1, 0, 1});
    }

    /** Of posted writes, reads and a configuration write, those of one kind go on. */
    private void goesOnFrom(int kind, int[] left) {
        String still = "";
        for (int i = 0; i < 3; i++) {
            still += "credit 1 " + i + " " + (i == kind ? 8 : 0) + "; table " + kind + " " + i + " 1;";
        }
        BusBridge x = Check.bridge(still + "latency 1 50;");
        x.post(0, 0, 1, 1, false);
        x.read(0, 0, 1, false);
        x.configure(0, 0, 1, false);
        x.post(0, 0, 1, 1, false);
        x.read(0, 0, 1, false);
        x.run(5);
        e.due("waiting(0)", x.waiting(0), left.length);
        for (int i = 0; i < left.length; i++) {
            e.due("kindAt(0, " + i + ")", x.kindAt(0, i), left[i]);
        }
    }

    private void blocking() {
        e.says(0, "A waiting transaction a is blocked by another one b that came before it from the same side if the table has 0 "
                + "for a later one of the kind of a before an earlier one of the kind of b; but a relaxed transaction is not "
                + "blocked by a posted write.");
        for (int i = 0; i < 256; i++) {
            int side = i % 2;
            int a = i / 2 % 4;
            int b = i / 8 % 4;
            boolean may = i / 32 % 2 == 1;
            boolean relaxedA = i / 64 % 2 == 1;
            boolean relaxedB = i / 128 == 1;
            BusBridge x = Check.bridge(pairOfKinds(side, a, b, may));
            Edges.issue(x, side, b, relaxedB);
            x.run(2);
            Edges.issue(x, side, a, relaxedA);
            x.run(2);
            boolean blocked = !may && !(relaxedA && b == 0);
            e.due("waiting", x.waiting(side), 2);
            e.due("blockers of " + a + " behind " + b, x.blockers(side, 1), blocked ? 1 : 0);
            e.due("blockers of the first", x.blockers(side, 0), 0);
            e.due("mayPass", x.mayPass(a, b, relaxedA), !blocked);
        }
        // Those of the other side block nothing.
        BusBridge y = Check.bridge("credit 0 0 0; credit 1 0 0; credit 1 1 1;");
        y.post(1, 0, 1, 1, false);
        y.read(0, 0, 1, false);
        e.due("blockers(0, 0)", y.blockers(0, 0), 0);
        e.due("next(0)", y.next(0), 0);
    }

    /** Nothing goes on from the side; the table has one entry and the opposite for all others. */
    private static String pairOfKinds(int side, int a, int b, boolean may) {
        StringBuilder text = new StringBuilder("latency " + side + " 0;");
        for (int i = 0; i < 16; i++) {
            text.append("table ").append(i / 4).append(' ').append(i % 4).append(' ').append(may ? 0 : 1).append(';');
        }
        text.append("table ").append(a).append(' ').append(b).append(' ').append(may ? 1 : 0).append(';');
        for (int i = 0; i < 4; i++) {
            text.append("credit ").append(1 - side).append(' ').append(i).append(" 0;");
        }
        return text.toString();
    }

    private void numberOfTheTick() {
        e.says(0, "A tick is done like this: 1. The number of the tick increases by 1 (it is 0 at first).");
        BusBridge x = new BusBridge();
        e.due("tick()", x.tick(), 0);
        x.run(1);
        e.due("tick()", x.tick(), 1);
        x.run(1);
        e.due("tick()", x.tick(), 2);
        x.run(300);
        e.due("tick()", x.tick(), 302);
    }

    private void orderOfWork() {
        e.says(0, "2. For side 0, then for side 1: the target considers the transactions that it holds, "
                + "in the order in which it has accepted them.");
        for (int side = 0; side < 2; side++) {
            // All three are due in tick 5; the one that was accepted last writes last.
            BusBridge x = Check.bridge("credit " + side + " 0 3; latency " + side + " 4-tick;");
            for (int value = 1; value <= 3; value++) {
                x.post(1 - side, 0, 1, value, false);
            }
            x.run(4);
            e.due("word in 4", x.word(side, 0), 0);
            x.run(1);
            e.due("word in 5", x.word(side, 0), 3);
            // A read between two writes, all due in the same tick, sees the first one.
            BusBridge y = Check.bridge("latency " + side + " 4-tick;");
            y.post(1 - side, 0, 1, 1, false);
            y.read(1 - side, 0, 1, false);
            y.post(1 - side, 0, 1, 2, true);
            y.run(30);
            e.due("data", y.data(1 - side, 0, 0), 1);
            e.due("word", y.word(side, 0), 2);
        }
    }

    private void dueTicks() {
        e.says(0, "On one that was accepted in tick t with the latency m, it works from tick t + m + 1 on.");
        int[] latencies = {0, 1, 2, 49, 50};
        int[] firsts = {0, 1, 7, 300};
        for (int m : latencies) {
            for (int first : firsts) {
                for (int kind = 0; kind < 4; kind++) {
                    BusBridge x = Check.bridge("latency 1 " + m + "; latency 0 0;");
                    Edges.runTo(x, first);
                    Edges.issue(x, 0, kind, false);
                    int accepted = first + (kind == 3 ? 2 : 1);
                    Edges.runTo(x, accepted);
                    e.due("held in t", x.held(1, kind), 1);
                    Edges.runTo(x, accepted + m);
                    e.due("held in t + m", x.held(1, kind), 1);
                    x.run(1);
                    e.due("held in t + m + 1", x.held(1, kind), 0);
                }
            }
        }
    }

    private void postedWriteIsDone() {
        e.says(0, "A posted write is written to the memory, and is done.");
        // It needs no room for completions: that buffer is full and stays so.
        BusBridge x = Check.bridge("buffer 1 3 1; credit 0 3 0; latency 1 0;");
        x.configure(0, 0, 1, false);
        x.run(2);
        e.due("the buffer for completions is full", x.waiting(1), 1);
        x.post(0, 1, 4, 7, false);
        x.run(1);
        e.due("held(1, 0)", x.held(1, 0), 1);
        x.run(1);
        e.due("held(1, 0)", x.held(1, 0), 0);
        e.due("word(1, 1)", x.word(1, 1), 7);
        e.due("word(1, 4)", x.word(1, 4), 10);
        e.due("no completion comes", x.waiting(1), 1);
    }

    private void roomForConfigurationWrites() {
        e.says(0, "For a configuration write there must be room in the buffer for completions from this side: then it is written "
                + "to the memory, its completion comes into the bridge, and it is done.");
        for (int size = 1; size <= 8; size++) {
            // One more than there is room for.
            BusBridge x = Check.bridge("buffer 1 3 " + size + "; credit 0 3 0; latency 1 0; buffer 0 1 8; buffer 0 2 1; split 1; tags 8;");
            for (int i = 0; i < size; i++) {
                x.read(0, 0, 1, false);
                x.run(2);
            }
            e.due("the buffer is full", x.waiting(1), size);
            if (size < 8) {
                x.configure(0, 3, 9, false);
                x.run(20);
                e.due("waiting(1)", x.waiting(1), size);
                e.due("held(1, 2)", x.held(1, 2), 1);
                e.due("word(1, 3)", x.word(1, 3), 0);
                e.due("ticksToRest()", x.ticksToRest(), 0);
                e.due("isStuck()", x.isStuck(), true);
                x.undo();
                x.undo();
                x.undo();
                x.undo();
                e.due("one place is free", x.waiting(1), size - 1);
                x.configure(0, 3, 9, false);
                x.run(2);
                e.due("waiting(1)", x.waiting(1), size);
                e.due("held(1, 2)", x.held(1, 2), 0);
                e.due("word(1, 3)", x.word(1, 3), 9);
            }
        }
        // The room that matters is that of its target's side, for completions.
        BusBridge y = Check.bridge("buffer 0 3 1; buffer 1 0 1; buffer 1 1 1; buffer 1 2 1; credit 0 0 0; credit 0 1 0; credit 0 2 0; credit 0 3 0;");
        y.post(1, 0, 1, 1, false);
        y.read(1, 0, 1, false);
        y.configure(1, 0, 1, false);
        for (int i = 0; i < 4; i++) {
            y.configure(0, i, 5, false);
        }
        y.run(20);
        e.due("four completions wait", y.waiting(1), 3 + 4);
    }

    private void roomForReads() {
        e.says(0, "A read makes its completions one by one, as long as there is room in this buffer: each for the next words of the read, "
                + "at most split words, with what the memory holds then; it is done after the last one.");
        // Three places: of four completions the first three come at once, the fourth a tick after the first has gone.
        BusBridge x = Check.bridge("buffer 1 3 3; credit 0 3 1; split 1; latency 1 0; latency 0 5; word 1 0 10; word 1 1 11; word 1 2 12; word 1 3 13;");
        x.read(0, 0, 4, false);
        x.run(2);
        e.due("held(1, 1) in 2", x.held(1, 1), 1);
        e.due("waiting(1) in 2: one has gone on", x.waiting(1), 2);
        x.post(0, 0, 4, 50, false);
        x.run(1);
        e.due("held(1, 1) in 3", x.held(1, 1), 0);
        e.due("waiting(1) in 3", x.waiting(1), 3);
        x.run(60);
        for (int i = 0; i < 4; i++) {
            e.due("data", x.data(0, 0, i), 10 + i);
        }
        // One place: the parts are made in ticks 2, 3 and 9; the write is worked on in tick 5.
        BusBridge y = Check.bridge("buffer 1 3 1; credit 0 3 1; split 1; latency 1 0; latency 0 5; word 1 0 10; word 1 1 11; word 1 2 12; word 1 3 13;");
        y.read(0, 0, 3, false);
        y.run(3);
        y.post(0, 0, 4, 50, false);
        y.run(60);
        e.due("data(0, 0, 0)", y.data(0, 0, 0), 10);
        e.due("data(0, 0, 1)", y.data(0, 0, 1), 11);
        e.due("data(0, 0, 2)", y.data(0, 0, 2), 52);
        // Without any room not a part is made; the read is not done when a part is missing.
        BusBridge z = Check.bridge("buffer 1 3 1; credit 0 3 0; split 2; latency 1 0;");
        z.read(0, 0, 3, false);
        z.read(0, 0, 1, false);
        z.run(50);
        e.due("waiting(1)", z.waiting(1), 1);
        e.due("tagAt(1, 0)", z.tagAt(1, 0), 0);
        e.due("held(1, 1)", z.held(1, 1), 2);
        // All parts for which there is room come in one tick.
        for (int split = 1; split <= 4; split++) {
            for (int room = 1; room <= 5; room++) {
                BusBridge v = Check.bridge("buffer 1 3 " + room + "; credit 0 3 0; split " + split + "; latency 1 0;");
                v.read(0, 0, 4, false);
                v.run(1);
                e.due("waiting(1) in 1", v.waiting(1), 0);
                v.run(1);
                int parts = (4 + split - 1) / split;
                e.due("waiting(1) in 2", v.waiting(1), Math.min(parts, room));
                e.due("held(1, 1) in 2", v.held(1, 1), parts <= room ? 0 : 1);
            }
        }
        // A part that fills the last place is the last one: the read is done.
        BusBridge w = Check.bridge("buffer 1 3 2; credit 0 3 0; split 2; latency 1 0;");
        w.read(0, 0, 4, false);
        w.run(2);
        e.due("waiting(1)", w.waiting(1), 2);
        e.due("held(1, 1)", w.held(1, 1), 0);
    }

    private void withoutRoom() {
        e.says(0, "Without room, a request is considered again in the next tick, and the target goes on to the next transaction.");
        // The third request is due in tick 4 and has no room until the second completion goes on in tick 12.
        BusBridge x = Check.bridge("buffer 1 3 1; credit 0 3 1; latency 1 0; latency 0 9;");
        x.configure(0, 0, 1, false);
        x.configure(0, 1, 2, false);
        x.configure(0, 2, 3, false);
        x.post(0, 3, 1, 4, false);
        x.run(3);
        e.due("word(1, 1) in 3", x.word(1, 1), 2);
        e.due("waiting(1) in 3", x.waiting(1), 1);
        x.run(2);
        e.due("word(1, 2) in 5 has no room", x.word(1, 2), 0);
        e.due("word(1, 3) in 5 needs none", x.word(1, 3), 4);
        x.run(7);
        e.due("the place is free in 12", x.waiting(1), 0);
        e.due("word(1, 2) in 12", x.word(1, 2), 0);
        x.run(1);
        e.due("word(1, 2) in 13", x.word(1, 2), 3);
        // With one place, the request that was accepted first takes it, though it has been refused before.
        BusBridge y = Check.bridge("buffer 1 3 1; credit 0 3 1; credit 1 2 8; latency 1 0; latency 0 3; buffer 0 2 8; tags 8;");
        for (int i = 0; i < 6; i++) {
            y.configure(0, i, 9, false);
        }
        for (int tick = 1; tick <= 60; tick++) {
            y.run(1);
            int written = 0;
            for (int i = 0; i < 6; i++) {
                written = y.word(1, i) == 9 && written == i ? i + 1 : written;
            }
            int all = 0;
            for (int i = 0; i < 6; i++) {
                all += y.word(1, i) == 9 ? 1 : 0;
            }
            e.due("written in the order of acceptance, in " + tick, all, written);
        }
        e.due("tagState(0, 5)", y.tagState(0, 5), 2);
    }

    private void completions() {
        e.says(0, "A completion (the answer to a request of this side) stores its data for its tag, and is done; "
                + "when all completions of a request have been worked on, its tag is complete.");
        // The later words come first: the tag is not complete with the last word, but with all.
        BusBridge x = Check.bridge("split 1; latency 1 0; latency 0 (3-address)*10; credit 0 3 8; word 1 0 5; word 1 1 6; word 1 2 7; word 1 3 8;");
        x.read(0, 0, 4, false);
        // Accepted in 2, 3, 4 and 5 with 30, 20, 10 and 0: worked on in 33, 24, 15 and 6.
        int[] ticks = {6, 15, 24, 33};
        for (int i = 0; i < 4; i++) {
            Edges.runTo(x, ticks[i] - 1);
            e.due("stored", x.stored(0, 0), i);
            e.due("tagState", x.tagState(0, 0), 1);
            x.run(1);
            e.due("stored", x.stored(0, 0), i + 1);
            e.due("data", x.data(0, 0, 3 - i), 8 - i);
            for (int k = 0; k < 3 - i; k++) {
                int index = k;
                e.badState("data", () -> x.data(0, 0, index));
            }
        }
        e.due("tagState", x.tagState(0, 0), 2);
        e.due("held(0, 3)", x.held(0, 3), 0);
        // The last part is the shorter one and comes first.
        BusBridge y = Check.bridge("split 3; latency 1 0; latency 0 words*10; word 1 0 5; word 1 1 6; word 1 2 7; word 1 3 8;");
        y.read(0, 0, 4, false);
        y.run(14);
        e.due("stored", y.stored(0, 0), 1);
        e.due("data(0, 0, 3)", y.data(0, 0, 3), 8);
        e.due("tagState", y.tagState(0, 0), 1);
        y.run(19);
        e.due("stored", y.stored(0, 0), 4);
        e.due("tagState", y.tagState(0, 0), 2);
        // Words that hold 0 and -1 are stored too.
        BusBridge z = new BusBridge();
        z.post(0, 1, 1, -1, false);
        z.read(0, 0, 2, false);
        z.run(20);
        e.due("stored", z.stored(0, 0), 2);
        e.due("data(0, 0, 0)", z.data(0, 0, 0), 0);
        e.due("data(0, 0, 1)", z.data(0, 0, 1), -1);
    }

    private void doneIsNotHeld() {
        e.says(0, "A transaction that is done is not held any more.");
        // One credit: what is done in step 2 makes room for the next one in step 3 of the same tick.
        for (int kind = 0; kind < 3; kind++) {
            BusBridge x = Check.bridge("credit 1 0 1; credit 1 1 1; credit 1 2 1; latency 1 3;");
            Edges.issue(x, 0, kind, false);
            Edges.issue(x, 0, kind, false);
            x.run(4);
            e.due("forwarded(0) in 4", x.forwarded(0), 1);
            e.due("held in 4", x.held(1, kind), 1);
            x.run(1);
            e.due("forwarded(0) in 5", x.forwarded(0), 2);
            e.due("held in 5", x.held(1, kind), 1);
            x.run(4);
            e.due("held in 9", x.held(1, kind), 0);
        }
    }

    private void forwarding() {
        e.says(0, "3. For side 0, then for side 1: of the transactions that wait from this side, the first one that is not blocked, "
                + "and for whose kind the target of the other side holds less than its credits, is forwarded: it leaves the bridge, "
                + "and the target accepts it.");
        // The first has no credit, the second is blocked by it, the third goes.
        BusBridge x = Check.bridge("credit 1 0 0; table 2 1 0;");
        x.post(0, 0, 1, 1, false);
        x.read(0, 0, 1, false);
        x.configure(0, 0, 1, true);
        e.due("next(0): all are blocked or have no credit", x.next(0), -1);
        x.read(0, 0, 1, true);
        e.due("next(0)", x.next(0), 3);
        e.due("run(1)", x.run(1), 1);
        e.due("waiting(0)", x.waiting(0), 3);
        e.due("held(1, 1)", x.held(1, 1), 1);
        e.due("run(1) finds none", x.run(1), 0);
        // The credits are those of the other side's target.
        BusBridge y = Check.bridge("credit 0 0 0;");
        y.post(0, 0, 1, 1, false);
        y.post(1, 0, 1, 1, false);
        e.due("next(0)", y.next(0), 0);
        e.due("next(1)", y.next(1), -1);
        e.due("run(1)", y.run(1), 1);
        e.due("held(1, 0)", y.held(1, 0), 1);
        e.due("held(0, 0)", y.held(0, 0), 0);
        // One for each side in a tick, both at once.
        BusBridge z = new BusBridge();
        for (int i = 0; i < 2; i++) {
            z.post(0, 0, 1, 1, false);
            z.post(1, 0, 1, 1, false);
        }
        e.due("run(1)", z.run(1), 2);
        e.due("waiting(0)", z.waiting(0), 1);
        e.due("waiting(1)", z.waiting(1), 1);
        e.due("run(1)", z.run(1), 2);
        e.due("run(1)", z.run(1), 0);
    }

    private void oneAfterTheOtherInATick() {
        // A completion that comes in step 2 goes on in step 3; a transaction that is accepted in step 3 waits for the next tick.
        BusBridge x = Check.bridge("latency 0 0; latency 1 0;");
        x.configure(0, 0, 1, false);
        x.run(1);
        e.due("word(1, 0) in 1", x.word(1, 0), 0);
        x.run(1);
        e.due("word(1, 0) in 2", x.word(1, 0), 1);
        e.due("waiting(1) in 2", x.waiting(1), 0);
        e.due("held(0, 3) in 2", x.held(0, 3), 1);
        e.due("tagState in 2", x.tagState(0, 0), 1);
        x.run(1);
        e.due("tagState in 3", x.tagState(0, 0), 2);
        // A place that becomes free in step 3 is no room in step 2 of the same tick.
        BusBridge y = Check.bridge("buffer 1 3 1; latency 0 0; latency 1 0;");
        y.configure(0, 0, 1, false);
        y.configure(0, 1, 1, false);
        y.run(2);
        e.due("word(1, 0)", y.word(1, 0), 1);
        y.run(1);
        e.due("word(1, 1)", y.word(1, 1), 1);
        // A full buffer is free again after the tick that forwards one of it.
        BusBridge z = Check.bridge("buffer 0 0 1;");
        z.post(0, 0, 1, 1, false);
        e.badState("post", () -> z.post(0, 0, 1, 1, false));
        z.run(1);
        e.due("post", z.post(0, 0, 1, 1, false), 1);
        e.badState("post", () -> z.post(0, 0, 1, 1, false));
    }
}
