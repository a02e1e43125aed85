/** The boundary cases of promises 6 to 23: the table, what waits, targets, memory, tags and figures. */
final class AnswerEdges {
    private static final int MAX = Integer.MAX_VALUE;
    private static final int MIN = Integer.MIN_VALUE;
    private static final int[] NO_SIDES = {-1, 2, 3, 4, 16, MIN, MAX};
    private static final int[] NO_KINDS = {-1, 4, 5, 8, 32, MIN, MAX};

    private final Edges e;

    private AnswerEdges(Edges e) {
        this.e = e;
    }

    static void all(Edges e) {
        AnswerEdges t = new AnswerEdges(e);
        t.mayPass();
        t.isSafe();
        t.holds();
        t.noSuchSide();
        t.waiting();
        t.positions();
        t.tagAt();
        t.blockers();
        t.next();
        t.held();
        t.word();
        t.tags();
        t.stored();
        t.data();
        t.forwarded();
        t.passings();
        t.utilisation();
        t.averageWait();
        t.ratioBits();
    }

    private interface OfSide {
        void ask(BusBridge x, int side);
    }

    private void mayPass() {
        e.says(6, "Returns whether a transaction may pass an earlier one from the same side.");
        e.says(6, "- `later`: kind of the transaction, 0 to 3");
        e.says(6, "- `earlier`: kind of the earlier one, 0 to 3");
        e.says(6, "- `relaxed`: whether the later one is relaxed");
        for (int i = 0; i < 32; i++) {
            int later = i / 8;
            int earlier = i / 2 % 4;
            int may = i % 2;
            BusBridge x = Check.bridge("table " + later + " " + earlier + " " + may + ";");
            e.due("mayPass, table " + may, x.mayPass(later, earlier, false), may == 1);
            e.due("mayPass, relaxed, table " + may, x.mayPass(later, earlier, true), may == 1 || earlier == 0);
        }
        e.says(6, "Throws `IndexOutOfBoundsException` if there is no such kind");
        BusBridge x = new BusBridge();
        for (int kind : NO_KINDS) {
            for (int good = 0; good < 4; good++) {
                int g = good;
                e.outOfBounds("mayPass(" + kind + ", " + g + ")", () -> x.mayPass(kind, g, false));
                e.outOfBounds("mayPass(" + g + ", " + kind + ")", () -> x.mayPass(g, kind, true));
            }
            e.outOfBounds("mayPass of no kinds", () -> x.mayPass(kind, kind, true));
        }
    }

    private void isSafe() {
        e.says(7, "Returns whether the bridge is safe: whether posted writes and completions may pass reads and configuration writes, "
                + "and all credits for posted writes and completions are at least 1.");
        e.due("isSafe() of a new object", new BusBridge().isSafe(), true);
        String all = "table 0 1 1; table 0 2 1; table 3 1 1; table 3 2 1; credit 0 0 1; credit 0 3 1; credit 1 0 1; credit 1 3 1;";
        String none = "";
        for (int i = 0; i < 16; i++) {
            none += "table " + i / 4 + " " + i % 4 + " 0;";
        }
        for (int side = 0; side < 2; side++) {
            none += "credit " + side + " 1 0; credit " + side + " 2 0;";
        }
        e.due("isSafe() with what is needed, and no more", Check.bridge(none + all).isSafe(), true);
        String[] breaks = {"table 0 1 0;", "table 0 2 0;", "table 3 1 0;", "table 3 2 0;", "credit 0 0 0;", "credit 0 3 0;", "credit 1 0 0;", "credit 1 3 0;"};
        for (String one : breaks) {
            e.due("isSafe() with " + one, Check.bridge(none + all + one).isSafe(), false);
            e.due("isSafe() with only " + one, Check.bridge(one).isSafe(), false);
        }
        e.due("isSafe() with credits of 8", Check.bridge("credit 0 0 8; credit 0 3 8; credit 1 0 8; credit 1 3 8;").isSafe(), true);
    }

    private void holds() {
        e.says(8, "Returns whether a set of buffers of one kind can hold a transaction of some kind. A buffer holds transactions of its own kind only.");
        e.says(8, "- `buffer`: kind of the buffer, 0 to 3");
        e.says(8, "- `kind`: kind of the transaction, 0 to 3");
        BusBridge x = new BusBridge();
        for (int i = 0; i < 16; i++) {
            e.due("holds(" + i / 4 + ", " + i % 4 + ")", x.holds(i / 4, i % 4), i / 4 == i % 4);
        }
        e.says(8, "Throws `IndexOutOfBoundsException` if there is no such kind");
        for (int kind : NO_KINDS) {
            for (int good = 0; good < 4; good++) {
                int g = good;
                e.outOfBounds("holds(" + kind + ", " + g + ")", () -> x.holds(kind, g));
                e.outOfBounds("holds(" + g + ", " + kind + ")", () -> x.holds(g, kind));
            }
            e.outOfBounds("holds of no kinds", () -> x.holds(kind, kind));
        }
    }

    private void noSuchSide() {
        noSide(9, "waiting", BusBridge::waiting);
        noSide(13, "next", BusBridge::next);
        noSide(19, "forwarded", BusBridge::forwarded);
        noSide(20, "passings", BusBridge::passings);
        noSide(21, "utilisation", BusBridge::utilisation);
        noSide(22, "averageWait", BusBridge::averageWait);
    }

    private void noSide(int promise, String name, OfSide call) {
        e.says(promise, "Throws `IndexOutOfBoundsException` if there is no such side");
        BusBridge x = new BusBridge();
        for (int side : NO_SIDES) {
            e.outOfBounds(name + "(" + side + ")", () -> call.ask(x, side));
        }
        call.ask(x, 0);
        call.ask(x, 1);
    }

    private void waiting() {
        e.says(9, "Returns the number of transactions that wait from a side.");
        for (int side = 0; side < 2; side++) {
            BusBridge x = fullBridge(side);
            e.due("waiting from the full side", x.waiting(side), 24);
            BusBridge y = new BusBridge();
            e.due("waiting at first", y.waiting(side), 0);
            y.post(side, 0, 1, 1, false);
            e.due("waiting with one", y.waiting(side), 1);
            e.due("waiting from the other side", y.waiting(1 - side), 0);
            y.run(1);
            e.due("waiting when it has gone on", y.waiting(side), 0);
        }
    }

    /** As many wait from a side as ever can: 8 completions, 8 requests with all the tags, and 8 posted writes. */
    private static BusBridge fullBridge(int side) {
        int other = 1 - side;
        String text = "tags 8; split 1; latency " + side + " 0;";
        for (int kind = 0; kind < 4; kind++) {
            text += "buffer " + side + " " + kind + " 8; credit " + other + " " + kind + " 0; table 0 " + kind + " 0;";
        }
        BusBridge x = Check.bridge(text);
        x.read(other, 0, 4, false);
        x.read(other, 4, 4, false);
        x.run(9);
        for (int i = 0; i < 4; i++) {
            x.read(side, 0, 1, false);
            x.configure(side, 0, 1, false);
        }
        for (int i = 0; i < 8; i++) {
            x.post(side, 0, 1, 1, false);
        }
        return x;
    }

    private interface OfPosition {
        void ask(BusBridge x, int side, int position);
    }

    private void positions() {
        e.says(10, "Returns the kind of a waiting transaction.");
        for (int side = 0; side < 2; side++) {
            BusBridge x = fullBridge(side);
            for (int i = 0; i < 24; i++) {
                e.due("kindAt(side, " + i + ")", x.kindAt(side, i), i < 8 ? 3 : i >= 16 ? 0 : i % 2 == 0 ? 1 : 2);
            }
        }
        noPosition(10, "kindAt", BusBridge::kindAt);
        noPosition(11, "tagAt", BusBridge::tagAt);
        noPosition(12, "blockers", BusBridge::blockers);
        e.says(0, "Positions of waiting transactions are counted from 0, in the order in which they came.");
        BusBridge x = new BusBridge();
        x.configure(0, 0, 1, false);
        x.read(0, 0, 1, false);
        e.due("kindAt(0, 0)", x.kindAt(0, 0), 2);
        e.due("kindAt(0, 1)", x.kindAt(0, 1), 1);
        x.run(1);
        e.due("kindAt(0, 0) then", x.kindAt(0, 0), 1);
        e.outOfBounds("kindAt(0, 1) then", () -> x.kindAt(0, 1));
    }

    private void noPosition(int promise, String name, OfPosition call) {
        e.says(promise, "Throws `IndexOutOfBoundsException` if there is no such side or position");
        for (int s = 0; s < 2; s++) {
            int side = s;
            BusBridge full = fullBridge(side);
            call.ask(full, side, 0);
            call.ask(full, side, 23);
            int[] none = {-1, 24, 31, 32, 33, MIN, MAX};
            for (int position : none) {
                e.outOfBounds(name + "(side, " + position + ")", () -> call.ask(full, side, position));
            }
            // The other side's number of positions is its own.
            e.outOfBounds(name + " of the empty side", () -> call.ask(full, 1 - side, 0));
            BusBridge empty = new BusBridge();
            e.outOfBounds(name + "(side, 0) when nothing waits", () -> call.ask(empty, side, 0));
            empty.post(side, 0, 1, 1, false);
            call.ask(empty, side, 0);
            e.outOfBounds(name + "(side, 1) when one waits", () -> call.ask(empty, side, 1));
            empty.run(1);
            e.outOfBounds(name + "(side, 0) when it has gone on", () -> call.ask(empty, side, 0));
        }
        // A position that both sides have does not make a side.
        BusBridge both = new BusBridge();
        both.post(0, 0, 1, 1, false);
        both.post(1, 0, 1, 1, false);
        for (int side : NO_SIDES) {
            e.outOfBounds(name + "(" + side + ", 0)", () -> call.ask(both, side, 0));
            e.outOfBounds(name + "(" + side + ", 1)", () -> call.ask(both, side, 1));
            e.outOfBounds(name + "(" + side + ", -1)", () -> call.ask(both, side, -1));
        }
    }

    private void tagAt() {
        e.says(11, "Returns the tag of a waiting transaction (for a completion that of its request).");
        for (int side = 0; side < 2; side++) {
            BusBridge x = fullBridge(side);
            for (int i = 0; i < 16; i++) {
                e.due("tagAt(side, " + i + ")", x.tagAt(side, i), i < 4 ? 0 : i < 8 ? 1 : i - 8);
            }
        }
        e.says(11, "Returns the tag; NONE for a posted write.");
        BusBridge x = fullBridge(0);
        for (int i = 16; i < 24; i++) {
            e.due("tagAt(0, " + i + ")", x.tagAt(0, i), -1);
        }
        e.due("tagAt of the highest tag", x.tagAt(0, 15), 7);
    }

    private void blockers() {
        e.says(12, "Returns by which waiting transactions one is blocked.");
        BusBridge x = new BusBridge();
        x.post(0, 0, 1, 1, false);
        x.read(0, 0, 1, false);
        e.due("blockers(0, 0) of the first", x.blockers(0, 0), 0);
        e.due("blockers(0, 1)", x.blockers(0, 1), 1);
        x.run(1);
        e.due("blockers(0, 0) when the write has gone on", x.blockers(0, 0), 0);
        e.says(12, "Returns the positions as a bit set (bit k for position k).");
        for (int side = 0; side < 2; side++) {
            BusBridge y = fullBridge(side);
            // A write is blocked by all that came before it here, a request by the completions, a completion by none.
            for (int i = 0; i < 24; i++) {
                int due = i < 8 ? 0 : i < 16 ? 0xff : (1 << i) - 1;
                e.due("blockers(side, " + i + ")", y.blockers(side, i), due);
            }
            e.due("blockers of the last", y.blockers(side, 23), 0x7fffff);
        }
    }

    private void next() {
        e.says(13, "Returns which transaction from a side would be forwarded if step 3 of a tick were done now.");
        for (int side = 0; side < 2; side++) {
            BusBridge x = Check.bridge("credit " + (1 - side) + " 1 1; latency " + (1 - side) + " 0;");
            x.read(side, 0, 1, false);
            x.read(side, 0, 1, false);
            x.post(side, 0, 1, 1, false);
            e.due("next, the first place", x.next(side), 0);
            x.run(1);
            e.due("next, the last place", x.next(side), 1);
            // In the next tick the read is done before step 3; done now, step 3 finds its credit taken.
            e.due("next changes nothing", x.next(side), 1);
            e.due("passings by the tick itself", x.passings(side), 0);
            x.run(1);
            e.due("passings by the tick itself", x.passings(side), 0);
        }
        BusBridge full = fullBridge(0);
        e.due("next of a full side that cannot go on", full.next(0), -1);
        e.says(13, "Returns the position; NONE if none would be.");
        BusBridge x = new BusBridge();
        e.due("next(0) when nothing waits", x.next(0), -1);
        e.due("next(1) when nothing waits", x.next(1), -1);
        x.post(0, 0, 1, 1, false);
        e.due("next(0)", x.next(0), 0);
        e.due("next(1)", x.next(1), -1);
        // The last of 24 goes on: a write that passes all.
        String text = "tags 8; split 1; latency 0 0; credit 1 0 1;";
        for (int kind = 0; kind < 4; kind++) {
            text += "buffer 0 " + kind + " 8;" + (kind > 0 ? "credit 1 " + kind + " 0;" : "");
        }
        BusBridge y = Check.bridge(text);
        y.read(1, 0, 4, false);
        y.read(1, 0, 4, false);
        y.run(9);
        for (int i = 0; i < 8; i++) {
            y.read(0, 0, 1, false);
        }
        y.post(0, 0, 1, 1, false);
        e.due("next(0)", y.next(0), 16);
        y.run(1);
        e.due("passings(0)", y.passings(0), 16);
    }

    private void held() {
        e.says(14, "Returns how many transactions of a kind the target of a side holds.");
        for (int i = 0; i < 6; i++) {
            int side = i / 3;
            int kind = i % 3;
            BusBridge x = Check.bridge("tags 8; buffer " + (1 - side) + " " + kind + " 8; credit " + side + " " + kind + " 8; latency " + side + " 50;");
            for (int many = 0; many <= 8; many++) {
                for (int k = 0; k < 8; k++) {
                    e.due("held(" + k / 4 + ", " + k % 4 + ")", x.held(k / 4, k % 4), k == side * 4 + kind ? many : 0);
                }
                if (many < 8) {
                    Edges.issue(x, 1 - side, kind, false);
                    x.run(1);
                }
            }
        }
        e.says(14, "Throws `IndexOutOfBoundsException` if there is no such side or kind");
        BusBridge x = new BusBridge();
        for (int side : NO_SIDES) {
            e.outOfBounds("held(" + side + ", 0)", () -> x.held(side, 0));
            e.outOfBounds("held(" + side + ", 4)", () -> x.held(side, 4));
        }
        for (int kind : NO_KINDS) {
            e.outOfBounds("held(0, " + kind + ")", () -> x.held(0, kind));
            e.outOfBounds("held(1, " + kind + ")", () -> x.held(1, kind));
        }
    }

    private void word() {
        e.says(15, "Returns a word of the memory of a side.");
        BusBridge x = Check.bridge("word 0 0 1; word 0 15 2; word 1 0 3; word 1 15 4;");
        e.due("word(0, 0)", x.word(0, 0), 1);
        e.due("word(0, 15)", x.word(0, 15), 2);
        e.due("word(1, 0)", x.word(1, 0), 3);
        e.due("word(1, 15)", x.word(1, 15), 4);
        e.says(15, "Throws `IndexOutOfBoundsException` if there is no such side or address");
        int[] addresses = {-1, 16, 17, 32, MIN, MAX};
        for (int address : addresses) {
            e.outOfBounds("word(0, " + address + ")", () -> x.word(0, address));
            e.outOfBounds("word(1, " + address + ")", () -> x.word(1, address));
        }
        for (int side : NO_SIDES) {
            e.outOfBounds("word(" + side + ", 0)", () -> x.word(side, 0));
            e.outOfBounds("word(" + side + ", 16)", () -> x.word(side, 16));
        }
    }

    private interface OfTag {
        void ask(BusBridge x, int side, int tag);
    }

    private void tags() {
        e.says(16, "Returns the state of a tag of a side.");
        e.says(16, "Returns 0 free, 1 pending, 2 complete.");
        for (int side = 0; side < 2; side++) {
            BusBridge x = Check.bridge("tags 8; buffer " + side + " 2 8;");
            for (int tag = 0; tag < 8; tag++) {
                e.due("tagState, free", x.tagState(side, tag), 0);
                x.configure(side, 0, 1, false);
                e.due("tagState, pending", x.tagState(side, tag), 1);
                e.due("tagState of the other side", x.tagState(1 - side, tag), 0);
            }
            x.run(100);
            for (int tag = 0; tag < 8; tag++) {
                e.due("tagState, complete", x.tagState(side, tag), 2);
            }
            x.release(side, 7);
            e.due("tagState, free again", x.tagState(side, 7), 0);
            e.due("tagState, complete", x.tagState(side, 6), 2);
        }
        e.says(16, "Throws `IndexOutOfBoundsException` if there is no such side or tag");
        noTag("tagState", BusBridge::tagState);
        e.says(17, "Throws `IndexOutOfBoundsException` if there is no such side or tag");
        noTag("stored", BusBridge::stored);
        e.says(26, "Throws `IndexOutOfBoundsException` if there is no such side or tag");
        noTag("completeTick", BusBridge::completeTick);
        e.says(18, "Throws `IndexOutOfBoundsException` if there is no such side or tag (checked first)");
        noTag("data", (x, side, tag) -> x.data(side, tag, 0));
        noTag("data with a wrong index", (x, side, tag) -> x.data(side, tag, -1));
        e.says(31, "Throws `IndexOutOfBoundsException` if there is no such side or tag (checked first)");
        noTag("release", BusBridge::release);
    }

    /** For each number of tags: the first tag that does not exist, and others; all the tags there are are complete. */
    private void noTag(String name, OfTag call) {
        for (int many = 1; many <= 8; many++) {
            BusBridge x = Check.bridge("tags " + many + "; buffer 0 1 8; buffer 1 1 8;");
            for (int i = 0; i < many; i++) {
                x.read(0, 0, 1, false);
                x.read(1, 0, 1, false);
            }
            x.run(60);
            int[] none = {-1, many, many + 1, 8, 9, 16, MIN, MAX};
            for (int tag : none) {
                e.outOfBounds(name + "(0, " + tag + ") of " + many, () -> call.ask(x, 0, tag));
                e.outOfBounds(name + "(1, " + tag + ") of " + many, () -> call.ask(x, 1, tag));
            }
            for (int side : NO_SIDES) {
                e.outOfBounds(name + "(" + side + ", 0)", () -> call.ask(x, side, 0));
                e.outOfBounds(name + "(" + side + ", -1)", () -> call.ask(x, side, -1));
            }
            if (!name.startsWith("data with")) {
                call.ask(x, 0, many - 1);
                call.ask(x, 1, many - 1);
            }
        }
    }

    private void stored() {
        e.says(17, "Returns how many words have been stored for a tag.");
        e.says(17, "Returns 0 to 4; 0 for a free tag.");
        for (int words = 1; words <= 4; words++) {
            BusBridge x = Check.bridge("split 1; latency 0 0; latency 1 0;");
            e.due("stored, free", x.stored(0, 0), 0);
            x.read(0, 0, words, false);
            for (int many = 0; many <= words; many++) {
                Edges.runTo(x, many == 0 ? 2 : many + 2);
                e.due("stored in " + x.tick(), x.stored(0, 0), many);
            }
            x.run(9);
            e.due("stored at last", x.stored(0, 0), words);
            e.due("stored of the other side", x.stored(1, 0), 0);
            e.due("stored of another tag", x.stored(0, 1), 0);
            x.release(0, 0);
            e.due("stored, free again", x.stored(0, 0), 0);
            x.configure(0, 0, 1, false);
            x.run(9);
            e.due("stored of a configuration write", x.stored(0, 0), 0);
            e.due("tagState", x.tagState(0, 0), 2);
        }
    }

    private void data() {
        e.says(18, "Returns a word that has been stored for a tag.");
        e.says(18, "- `index`: index of the word in the read, from 0");
        e.says(18, "Returns the word.");
        BusBridge x = Check.bridge("tags 8; buffer 0 1 8; word 1 12 4; word 1 13 5; word 1 14 6; word 1 15 7;");
        for (int i = 0; i < 8; i++) {
            x.read(0, 12 + i % 4, 4 - i % 4, false);
        }
        x.run(90);
        for (int tag = 0; tag < 8; tag++) {
            for (int index = 0; index < 4 - tag % 4; index++) {
                e.due("data(0, " + tag + ", " + index + ")", x.data(0, tag, index), 4 + tag % 4 + index);
            }
        }
        e.says(18, "Throws `IllegalStateException` if this word of a read has not been stored");
        for (int i = 0; i < 8; i++) {
            int tag = i;
            int[] none = {-1, 4 - tag % 4, 4, 5, 7, 8, 31, 32, MIN, MAX};
            for (int index : none) {
                e.badState("data(0, " + tag + ", " + index + ")", () -> x.data(0, tag, index));
            }
        }
        e.badState("data of a free tag", () -> x.data(1, 0, 0));
        x.configure(1, 0, 1, false);
        e.badState("data of a pending tag", () -> x.data(1, 0, 0));
        x.run(9);
        e.badState("data of a configuration write", () -> x.data(1, 0, 0));
        x.release(0, 0);
        e.badState("data of a released tag", () -> x.data(0, 0, 0));
        x.read(0, 0, 4, false);
        e.badState("data of the tag's new read", () -> x.data(0, 0, 0));
        x.run(2);
        e.badState("data of the tag's new read", () -> x.data(0, 0, 0));
        // A shorter read with the same tag has no more words than its own.
        x.run(9);
        x.release(0, 0);
        x.read(0, 0, 1, false);
        x.run(9);
        e.due("data(0, 0, 0)", x.data(0, 0, 0), 0);
        e.badState("data(0, 0, 1)", () -> x.data(0, 0, 1));
    }

    private void forwarded() {
        e.says(19, "Returns the number of transactions from a side that have been forwarded.");
        BusBridge x = new BusBridge();
        e.due("forwarded(0) at first", x.forwarded(0), 0);
        e.due("forwarded(1) at first", x.forwarded(1), 0);
        x.read(0, 0, 4, false);
        e.due("forwarded(0) while it waits", x.forwarded(0), 0);
        x.run(1);
        e.due("forwarded(0)", x.forwarded(0), 1);
        e.due("forwarded(1)", x.forwarded(1), 0);
        x.run(9);
        e.due("forwarded(1) counts completions", x.forwarded(1), 2);
        e.due("forwarded(0)", x.forwarded(0), 1);
    }

    private void passings() {
        e.says(20, "Returns how often a transaction from a side passed another one: the sum, over all forwarded transactions, "
                + "of the numbers of those that came before them and waited still.");
        for (int side = 0; side < 2; side++) {
            for (int before = 0; before <= 4; before++) {
                BusBridge x = Check.bridge("credit " + (1 - side) + " 1 0; credit " + (1 - side) + " 0 8;");
                for (int i = 0; i < before; i++) {
                    x.read(side, 0, 1, false);
                }
                x.post(side, 0, 1, 1, false);
                x.post(side, 0, 1, 1, false);
                x.run(1);
                e.due("passings", x.passings(side), before);
                x.run(1);
                e.due("passings", x.passings(side), before * 2);
                x.run(9);
                e.due("passings", x.passings(side), before * 2);
                e.due("passings of the other side", x.passings(1 - side), 0);
            }
        }
        // Those that came later, or have gone on before, are not counted.
        BusBridge y = new BusBridge();
        y.post(0, 0, 1, 1, false);
        y.post(0, 0, 1, 1, false);
        y.read(0, 0, 1, false);
        y.run(9);
        e.due("passings(0)", y.passings(0), 0);
        // A completion that passes a request and a write that passes both.
        BusBridge z = Check.bridge("credit 0 2 0; credit 0 3 1; latency 1 0; latency 0 50; split 1;");
        z.configure(1, 0, 1, false);
        z.read(0, 0, 2, false);
        z.run(2);
        e.due("passings(1)", z.passings(1), 1);
        z.post(1, 0, 1, 1, false);
        z.run(1);
        e.due("passings(1)", z.passings(1), 1 + 2);
    }

    private void utilisation() {
        e.says(21, "Returns the part of the ticks in which a transaction from a side was forwarded.");
        e.says(21, "Returns the number of these ticks divided by the number of the tick, both converted to double; 0.0 in tick 0.");
        for (int side = 0; side < 2; side++) {
            BusBridge x = new BusBridge();
            e.dueDouble("utilisation in tick 0", x.utilisation(side), 0.0);
            x.post(side, 0, 1, 1, false);
            e.dueDouble("utilisation in tick 0", x.utilisation(side), 0.0);
            x.run(1);
            e.dueDouble("utilisation in tick 1", x.utilisation(side), 1.0);
            e.dueDouble("utilisation of the other side", x.utilisation(1 - side), 0.0);
            for (int tick = 2; tick <= 40; tick++) {
                x.run(1);
                e.dueDouble("utilisation in tick " + tick, x.utilisation(side), 1.0 / tick);
            }
            Edges.runTo(x, 9999);
            e.dueDouble("utilisation in tick 9999", x.utilisation(side), 1.0 / 9999.0);
            x.parse(0);
            e.dueDouble("utilisation in tick 0 again", x.utilisation(side), 0.0);
        }
        // Two of three ticks; in the third, undone and done again, none.
        BusBridge y = new BusBridge();
        y.post(0, 0, 1, 1, false);
        y.post(0, 0, 1, 1, false);
        y.run(3);
        e.dueDouble("utilisation(0)", y.utilisation(0), 2.0 / 3.0);
        y.undo();
        e.dueDouble("utilisation(0) in tick 0", y.utilisation(0), 0.0);
    }

    private void averageWait() {
        e.says(22, "Returns how long forwarded transactions from a side have waited on average.");
        e.says(22, "Returns the sum of their waiting times divided by their number, both converted to float, where a waiting time is "
                + "the number of the tick in which it was forwarded minus the number of the tick in which it came; 0.0f if none was forwarded.");
        for (int side = 0; side < 2; side++) {
            BusBridge x = new BusBridge();
            e.dueDouble("averageWait of none", x.averageWait(side), 0.0f);
            x.post(side, 0, 1, 1, false);
            e.dueDouble("averageWait of none that has gone on", x.averageWait(side), 0.0f);
            x.run(1);
            e.dueDouble("averageWait of one that waited 1", x.averageWait(side), 1.0f);
            e.dueDouble("averageWait of the other side", x.averageWait(1 - side), 0.0f);
            x.run(99);
            e.dueDouble("averageWait later", x.averageWait(side), 1.0f);
            x.post(side, 0, 1, 1, false);
            x.post(side, 0, 1, 1, false);
            x.run(2);
            e.dueDouble("averageWait of 1, 1 and 2", x.averageWait(side), 4.0f / 3.0f);
        }
        // A completion that goes on in the tick in which it came has waited 0 ticks.
        BusBridge y = new BusBridge();
        y.configure(0, 0, 1, false);
        y.run(3);
        e.due("forwarded(1)", y.forwarded(1), 1);
        e.dueDouble("averageWait(1)", y.averageWait(1), 0.0f);
        // The one that waits longest: behind seven writes of the latency 50, 1 + 7 * 51 ticks.
        BusBridge z = Check.bridge("buffer 0 0 8; credit 1 0 1; latency 1 50;");
        for (int i = 0; i < 8; i++) {
            z.post(0, 0, 1, 1, false);
        }
        Edges.runTo(z, 358);
        e.due("forwarded(0)", z.forwarded(0), 8);
        e.dueDouble("averageWait(0)", z.averageWait(0), (8 + 51 * 28) / 8.0f);
    }

    private void ratioBits() {
        e.says(23, "Returns the bits of the quotient of two average waits: Float.floatToIntBits of averageWait(0) / averageWait(1), computed in float.");
        for (int first = 1; first <= 40; first++) {
            for (int second = 1; second <= 8; second++) {
                BusBridge x = Check.bridge("buffer 1 0 8; credit 0 0 8; credit 1 0 1; latency 1 " + first + ";");
                x.post(0, 0, 1, 1, false);
                x.post(0, 0, 1, 1, false);
                for (int i = 0; i < second; i++) {
                    x.post(1, 0, 1, 1, false);
                }
                x.run(60);
                float quotient = (1 + 2 + first) / 2.0f / (second * (second + 1) / 2 / (float) second);
                e.due("ratioBits()", x.ratioBits(), Float.floatToIntBits(quotient));
                e.due("ratioBits()", x.ratioBits(), Float.floatToIntBits(x.averageWait(0) / x.averageWait(1)));
            }
        }
        e.says(23, "Returns the bits; 0 if averageWait(1) is 0.0f.");
        BusBridge x = new BusBridge();
        e.due("ratioBits() at first", x.ratioBits(), 0);
        x.post(0, 0, 1, 1, false);
        x.run(1);
        e.due("ratioBits() of 1 and none", x.ratioBits(), 0);
        x.configure(0, 0, 1, false);
        x.run(9);
        e.due("forwarded(1)", x.forwarded(1), 1);
        e.due("ratioBits() of 1 and 0", x.ratioBits(), 0);
        x.post(1, 0, 1, 1, false);
        x.run(1);
        e.due("ratioBits() of 1 and 0.5", x.ratioBits(), Float.floatToIntBits(2.0f));
        BusBridge y = new BusBridge();
        y.post(1, 0, 1, 1, false);
        y.run(1);
        e.due("ratioBits() of none and 1", y.ratioBits(), 0);
        y.post(0, 0, 1, 1, false);
        y.run(1);
        e.due("ratioBits() of 1 and 1", y.ratioBits(), 0x3f800000);
        farFromOne();
    }

    /** The largest and the smallest quotients that a run can have: a long wait on one side, short ones on the other. */
    private void farFromOne() {
        for (int side = 0; side < 2; side++) {
            BusBridge x = Check.bridge("buffer " + side + " 0 1; credit " + (1 - side) + " 1 0; table 0 1 0; tags 8; latency 0 0; latency 1 0; split 4;");
            // Completions that wait 0 ticks bring the average of the other side down to 1 / 40.
            x.post(1 - side, 0, 1, 1, false);
            x.run(9);
            for (int i = 0; i < 39; i++) {
                int tag = x.configure(side, 0, 1, false);
                x.run(9);
                x.release(side, tag);
            }
            e.dueDouble("averageWait", x.averageWait(1 - side), 1.0f / 40.0f);
            float quotient = x.averageWait(0) / x.averageWait(1);
            e.due("ratioBits() far from 1", x.ratioBits(), Float.floatToIntBits(quotient));
            e.due("it is far from 1", side == 0 ? quotient > 30.0f : quotient < 0.03f, true);
        }
    }
}
