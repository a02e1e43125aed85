/** The boundary cases of what the statements of a text set, and of what holds without them. */
final class SettingEdges {
    private final Edges e;

    private SettingEdges(Edges e) {
        this.e = e;
    }

    static void all(Edges e) {
        SettingEdges t = new SettingEdges(e);
        t.replacing();
        t.defaultBuffers();
        t.defaultCredits();
        t.defaultWords();
        t.defaultLatencies();
        t.defaultSplitAndTags();
        t.defaultTable();
        t.bufferSizes();
        t.credits();
        t.splits();
        t.tags();
        t.firstWords();
    }

    private void replacing() {
        e.says(0, "A statement buffer, credit, table or word with the same first two numbers as an earlier one replaces it, "
                + "and so does a statement latency with the same side.");
        e.due("buffer 0 0", roomFor("buffer 0 0 1; buffer 0 0 3;", 0, 0), 3);
        e.due("buffer 0 0", roomFor("buffer 0 0 3; buffer 0 0 1;", 0, 0), 1);
        e.due("another side does not replace it", roomFor("buffer 0 0 3; buffer 1 0 1;", 0, 0), 3);
        e.due("another kind does not replace it", roomFor("buffer 0 0 3; buffer 0 1 1;", 0, 0), 3);
        e.due("a credit does not replace it", roomFor("buffer 0 0 3; credit 0 0 1;", 0, 0), 3);
        e.due("credit 1 0", mostHeld("credit 1 0 1; credit 1 0 3;", 1, 0), 3);
        e.due("credit 1 0", mostHeld("credit 1 0 3; credit 1 0 0;", 1, 0), 0);
        e.due("another side does not replace it", mostHeld("credit 1 0 3; credit 0 0 0;", 1, 0), 3);
        e.due("another kind does not replace it", mostHeld("credit 1 0 3; credit 1 3 0;", 1, 0), 3);
        e.due("table 0 3", Check.bridge("table 0 3 0; table 0 3 1;").mayPass(0, 3, false), true);
        e.due("table 0 3", Check.bridge("table 0 3 1; table 0 3 0;").mayPass(0, 3, false), false);
        e.due("table 3 0 does not replace it", Check.bridge("table 0 3 0; table 3 0 1;").mayPass(0, 3, false), false);
        e.due("word 0 15", Check.bridge("word 0 15 7; word 0 15 9;").word(0, 15), 9);
        e.due("word 0 15", Check.bridge("word 0 15 7; word 0 15 0;").word(0, 15), 0);
        e.due("another side does not replace it", Check.bridge("word 0 15 7; word 1 15 9;").word(0, 15), 7);
        e.due("another address does not replace it", Check.bridge("word 0 15 7; word 0 14 9;").word(0, 15), 7);
        e.due("latency 1", restOfPost("latency 1 20; latency 1 7;"), 7);
        e.due("latency 1", restOfPost("latency 1 1+1+1+1; latency 1 2;"), 2);
        e.due("another side does not replace it", restOfPost("latency 1 7; latency 0 20;"), 7);
        e.due("three times", restOfPost("latency 1 1; latency 1 2*(3+4); latency 1 9;"), 9);
    }

    /** The latency of a posted write from side 0. */
    private static int restOfPost(String text) {
        BusBridge x = Check.bridge(text);
        x.post(0, 0, 1, 1, false);
        return x.ticksToRest() - 2;
    }

    private void defaultBuffers() {
        e.says(0, "Without their statements, all buffers have the size 4,");
        for (int side = 0; side < 2; side++) {
            for (int kind = 0; kind < 4; kind++) {
                e.due("buffer " + side + " " + kind, roomFor("", side, kind), 4);
            }
        }
    }

    private void defaultCredits() {
        e.says(0, "all credits are 2,");
        for (int side = 0; side < 2; side++) {
            for (int kind = 0; kind < 4; kind++) {
                e.due("credit " + side + " " + kind, mostHeld("", side, kind), 2);
            }
        }
    }

    private void defaultWords() {
        e.says(0, "all words are 0,");
        BusBridge x = new BusBridge();
        for (int i = 0; i < 32; i++) {
            e.due("word", x.word(i / 16, i % 16), 0);
        }
    }

    private void defaultLatencies() {
        e.says(0, "both latencies are \"1\",");
        for (int side = 0; side < 2; side++) {
            BusBridge x = new BusBridge();
            x.post(1 - side, 0, 1, 9, false);
            x.run(2);
            e.due("word in tick 2", x.word(side, 0), 0);
            x.run(1);
            e.due("word in tick 3", x.word(side, 0), 9);
        }
    }

    private void defaultSplitAndTags() {
        e.says(0, "split is 2 and tags is 4,");
        BusBridge x = Check.bridge("credit 0 3 0;");
        for (int words = 1; words <= 4; words++) {
            x.read(0, 0, words, false);
            x.run(9);
            e.due("completions of " + words + " words", x.waiting(1), (words + 1) / 2);
            x.undo();
            x.undo();
        }
        for (int side = 0; side < 2; side++) {
            int s = side;
            e.due("tagState(side, 3)", x.tagState(s, 3), 0);
            e.outOfBounds("tagState(side, 4)", () -> x.tagState(s, 4));
        }
    }

    private void defaultTable() {
        BusBridge x = new BusBridge();
        e.says(0, "and the table has 1 (may pass) for a later posted write before an earlier read, configuration write or completion,");
        row(x, 0, "0111");
        e.says(0, "for a later read or configuration write before an earlier read or configuration write,");
        row(x, 1, "0110");
        row(x, 2, "0110");
        e.says(0, "and for a later completion before an earlier read, configuration write or completion;");
        row(x, 3, "0111");
        e.says(0, "and 0 for all others.");
        e.due("mayPass(0, 0, false)", x.mayPass(0, 0, false), false);
        e.due("mayPass(1, 0, false)", x.mayPass(1, 0, false), false);
        e.due("mayPass(1, 3, false)", x.mayPass(1, 3, false), false);
        e.due("mayPass(2, 0, false)", x.mayPass(2, 0, false), false);
        e.due("mayPass(2, 3, false)", x.mayPass(2, 3, false), false);
        e.due("mayPass(3, 0, false)", x.mayPass(3, 0, false), false);
    }

    private void row(BusBridge x, int later, String due) {
        StringBuilder row = new StringBuilder();
        for (int earlier = 0; earlier < 4; earlier++) {
            row.append(x.mayPass(later, earlier, false) ? 1 : 0);
        }
        e.dueText("row " + later, row.toString(), due);
    }

    private void bufferSizes() {
        e.says(0, "For each side and kind, at most as many wait as the size of this buffer.");
        for (int side = 0; side < 2; side++) {
            for (int kind = 0; kind < 4; kind++) {
                for (int size = 1; size <= 8; size++) {
                    // All the other buffers are as small as can be, so that a mixed-up one is seen.
                    String text = "";
                    for (int i = 0; i < 8; i++) {
                        int other = i == side * 4 + kind ? size : i == (1 - side) * 4 + 1 ? 8 : size == 1 ? 2 : 1;
                        text += "buffer " + i / 4 + " " + i % 4 + " " + other + ";";
                    }
                    e.due(text, roomFor(text + "tags 8;", side, kind), size);
                }
            }
        }
    }

    /** How many transactions of a kind from a side come to wait; nothing that comes from it can go on. */
    private int roomFor(String text, int side, int kind) {
        int other = 1 - side;
        String still = "";
        for (int i = 0; i < 4; i++) {
            still += "credit " + other + " " + i + " 0;";
        }
        String tags = text.contains("tags") ? "" : kind == 0 || kind == 3 ? "" : "tags 8;";
        BusBridge x = Check.bridge(text + still + tags + "credit " + side + " 1 8;" + "latency " + side + " 0; split 1;");
        if (kind == 3) {
            for (int i = 0; i < 4; i++) {
                x.read(other, 0, 4, false);
            }
            x.run(30);
            e.due("requests whose completions have no room are held", x.held(side, 1), 4 - x.waiting(side) / 4);
        } else {
            for (int i = 0; i < 8 && hasRoom(x, side, kind); i++) {
                Edges.issue(x, side, kind, false);
            }
            if (x.waiting(side) < 8) {
                e.badState("one too many", () -> Edges.issue(x, side, kind, false));
            }
            x.run(5);
        }
        int count = 0;
        for (int i = 0; i < x.waiting(side); i++) {
            count += x.kindAt(side, i) == kind ? 1 : 0;
        }
        return count;
    }

    private static boolean hasRoom(BusBridge x, int side, int kind) {
        int before = x.waiting(side);
        try {
            Edges.issue(x, side, kind, false);
            x.undo();
        } catch (IllegalStateException full) {
            return false;
        }
        return before == x.waiting(side);
    }

    private void credits() {
        e.says(0, "For each side and kind, the target of this side can hold as many transactions at the same time as there are credits.");
        for (int side = 0; side < 2; side++) {
            for (int kind = 0; kind < 4; kind++) {
                for (int many = 0; many <= 8; many++) {
                    String text = "";
                    for (int i = 0; i < 8; i++) {
                        int other = i == side * 4 + kind ? many : i == (1 - side) * 4 + 1 ? 8 : many == 1 ? 2 : 1;
                        text += "credit " + i / 4 + " " + i % 4 + " " + other + ";";
                    }
                    e.due(text, mostHeld(text, side, kind), many);
                }
            }
        }
    }

    /** How many transactions of a kind the target of a side comes to hold, of eight that are issued. */
    private int mostHeld(String text, int side, int kind) {
        int other = 1 - side;
        String wide = "buffer " + other + " " + kind + " 8; tags 8; split 1;";
        BusBridge x = Check.bridge(text + wide + "latency " + side + " 50; latency " + other + " 0;");
        if (kind == 3) {
            x.read(side, 0, 4, false);
            x.read(side, 4, 4, false);
        } else {
            for (int i = 0; i < 8; i++) {
                Edges.issue(x, other, kind, false);
            }
        }
        x.run(20);
        e.due("those without credits wait", x.waiting(other), 8 - x.held(side, kind));
        e.due("next() without credits", x.next(other), -1);
        return x.held(side, kind);
    }

    private void splits() {
        e.says(0, "words 1 to 4;");
        for (int split = 1; split <= 4; split++) {
            for (int words = 1; words <= 4; words++) {
                BusBridge x = Check.bridge("credit 0 3 0; split " + split + ";");
                x.read(0, 16 - words, words, false);
                x.run(9);
                e.due("completions of " + words + " words, split " + split, x.waiting(1), (words + split - 1) / split);
            }
        }
    }

    private void tags() {
        e.says(0, "many of tags 1 to 8.");
        for (int many = 1; many <= 8; many++) {
            BusBridge x = Check.bridge("buffer 0 1 8; buffer 1 2 8; tags " + many + ";");
            int first = many;
            for (int i = 0; i < many; i++) {
                e.due("tagState", x.tagState(0, i), 0);
                e.due("read", x.read(0, 0, 1, false), i);
                e.due("configure", x.configure(1, 0, 1, false), i);
            }
            e.badState("read without a tag", () -> x.read(0, 0, 1, false));
            e.badState("configure without a tag", () -> x.configure(1, 0, 1, false));
            e.outOfBounds("tagState", () -> x.tagState(0, first));
            e.outOfBounds("tagState", () -> x.tagState(1, first));
        }
    }

    private void firstWords() {
        e.says(0, "address 0 to 15;");
        for (int i = 0; i < 32; i++) {
            BusBridge x = Check.bridge("word " + i / 16 + " " + i % 16 + " 9999;");
            for (int k = 0; k < 32; k++) {
                e.due("word", x.word(k / 16, k % 16), k == i ? 9999 : 0);
            }
        }
    }
}
