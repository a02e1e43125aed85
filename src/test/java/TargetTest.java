/** Promises 14 to 18, and how targets work: held, word, tagState, stored, data, latencies. */
public final class TargetTest {
    private static final Check CHECK = new Check("TargetTest");

    public static void main(String[] args) {
        heldAndWritten();
        latencyOfEachKind();
        sums();
        splitReads();
        completionsOutOfOrder();
        roomForCompletions();
        orderOfWork();
        tagsAndData();
        wrongInputs();
        CHECK.end();
    }

    private static void heldAndWritten() {
        BusBridge x = Check.bridge("word 1 4 44; latency 1 2;");
        x.post(0, 1, 3, Integer.MAX_VALUE, false);
        CHECK.due("held(1, 0) before", x.held(1, 0), 0);
        x.run(1);
        CHECK.due("held(1, 0)", x.held(1, 0), 1);
        CHECK.due("held(0, 0)", x.held(0, 0), 0);
        CHECK.due("held(1, 1)", x.held(1, 1), 0);
        x.run(2);
        CHECK.due("word(1, 1) too early", x.word(1, 1), 0);
        x.run(1);
        CHECK.due("held(1, 0) when done", x.held(1, 0), 0);
        CHECK.due("word(1, 0)", x.word(1, 0), 0);
        CHECK.due("word(1, 1)", x.word(1, 1), Integer.MAX_VALUE);
        CHECK.due("word(1, 2)", x.word(1, 2), Integer.MIN_VALUE);
        CHECK.due("word(1, 3)", x.word(1, 3), Integer.MIN_VALUE + 1);
        CHECK.due("word(1, 4)", x.word(1, 4), 44);
        CHECK.due("word(0, 1)", x.word(0, 1), 0);
    }

    private static void latencyOfEachKind() {
        // 3 for a completion, 20 times its address: the first word's, or its configuration write's.
        BusBridge x = Check.bridge("latency 1 kind*10+words; latency 0 kind+address*20+words;");
        x.post(0, 0, 4, 1, false);
        CHECK.due("a write of 4 words: 4", ticksUntilHeldIs(x, 1, 0, 0), 1 + 4 + 1);
        x = Check.bridge("latency 1 kind*10+words; latency 0 kind+address*10+words;");
        x.configure(0, 2, 1, false);
        CHECK.due("a configuration write: 21", ticksUntilHeldIs(x, 1, 2, 0), 1 + 21 + 1);
        CHECK.due("its completion: 23", x.completeTick(0, 0), 23 + 23 + 1);
        x = Check.bridge("latency 1 kind*10+words; latency 0 kind+address*10+words;");
        x.read(0, 1, 3, false);
        CHECK.due("a read: 13", ticksUntilHeldIs(x, 1, 1, 0), 1 + 13 + 1);
        CHECK.due("its completions' latencies: 15, 34", x.completeTick(0, 0), 16 + 34 + 1);
        x.run(15);
        CHECK.due("the first one is in", x.stored(0, 0), 0);
        x.run(1);
        CHECK.due("then it is", x.stored(0, 0), 2);
    }

    private static int ticksUntilHeldIs(BusBridge x, int side, int kind, int many) {
        x.run(1);
        for (int n = 1; n < 100; n++) {
            if (x.held(side, kind) == many) {
                return n;
            }
            x.run(1);
        }
        return -1;
    }

    private static void sums() {
        latency("0", 0);
        latency("50", 50);
        latency("51", 50);
        latency("9999*9999", 50);
        latency("0-1", 0);
        latency("7-2-1", 4);
        latency("40/4/5", 2);
        latency("40/4*5", 50);
        latency("17%10%4", 3);
        latency("2+3*4", 14);
        latency("(2+3)*4", 20);
        latency("20-(3-(2-(1-(5))))", 23);
        latency("20-3*2-4/2+1", 13);
        latency("7/0+3", 3);
        latency("7%0+3", 3);
        latency("20+(0-7)/2", 17);
        latency("20+(0-7)%4", 17);
        latency("20+7%(0-4)", 23);
        latency("address+words*10+kind", 25);
        latency("tick", 1);
        latency("(0-9999)*9999*9999", Math.max(0, Math.min(50, -9999 * 9999 * 9999)));
        latency("9999*9999*30", Math.max(0, Math.min(50, 9999 * 9999 * 30)));
        // The smallest int: 65536 * 32768 wraps to it; divided by -1 it stays.
        latency("(256*256*(256*128))/(0-1)/(256*256*64*0-1)+5", 0);
        latency("256*256*(256*128)%(0-1)+5", 5);
        latency("0001+(((2*(3+(4)*(1)))))", 15);
        StringBuilder text = new StringBuilder("1");
        for (int i = 0; i < 40; i++) {
            text.append("+1");
        }
        latency(text.toString(), 41);
    }

    /** The latency of a posted write of 2 words to address 5, accepted in tick 1. */
    private static void latency(String sum, int due) {
        BusBridge x = Check.bridge("latency 1 " + sum + ";");
        x.post(0, 5, 2, 1, false);
        CHECK.due("latency " + sum, ticksUntilHeldIs(x, 1, 0, 0) - 2, due);
        CHECK.due("tick then", x.tick(), due + 2);
    }

    private static void splitReads() {
        for (int split = 1; split <= 4; split++) {
            for (int words = 1; words <= 4; words++) {
                BusBridge x = Check.bridge("split " + split + "; word 1 6 60; word 1 7 70; word 1 8 80; word 1 9 90;"
                        + "latency 1 0; credit 0 3 0;");
                x.read(0, 6, words, false);
                x.run(2);
                CHECK.due("completions", x.waiting(1), (words + split - 1) / split);
            }
        }
        BusBridge x = Check.bridge("split 3; word 1 6 60; word 1 7 70; word 1 8 80; word 1 9 90; latency 1 0; latency 0 0;");
        x.read(0, 6, 4, false);
        x.run(3);
        CHECK.due("stored(0, 0)", x.stored(0, 0), 3);
        CHECK.due("tagState(0, 0)", x.tagState(0, 0), 1);
        CHECK.badState("data(0, 0, 3)", () -> x.data(0, 0, 3));
        x.run(1);
        CHECK.due("stored(0, 0)", x.stored(0, 0), 4);
        CHECK.due("tagState(0, 0)", x.tagState(0, 0), 2);
        for (int i = 0; i < 4; i++) {
            CHECK.due("data", x.data(0, 0, i), 60 + 10 * i);
        }
    }

    private static void completionsOutOfOrder() {
        // The completion of the second word is worked on before that of the first.
        BusBridge x = Check.bridge("split 1; word 1 6 60; word 1 7 70; latency 0 (7-address)*10; latency 1 0;");
        x.read(0, 6, 2, false);
        x.run(4);
        CHECK.due("stored(0, 0)", x.stored(0, 0), 1);
        CHECK.badState("data(0, 0, 0)", () -> x.data(0, 0, 0));
        CHECK.due("data(0, 0, 1)", x.data(0, 0, 1), 70);
        CHECK.due("tagState(0, 0)", x.tagState(0, 0), 1);
        x.run(9);
        CHECK.due("tagState(0, 0)", x.tagState(0, 0), 2);
        CHECK.due("data(0, 0, 0)", x.data(0, 0, 0), 60);
    }

    private static void roomForCompletions() {
        // One place for completions from side 1: a read of 2 parts waits in the target for room.
        BusBridge x = Check.bridge("buffer 1 3 1; split 1; latency 1 0; latency 0 0; credit 0 3 1; word 1 0 5; word 1 1 6;");
        x.read(0, 0, 2, false);
        x.configure(0, 1, 77, false);
        x.post(0, 2, 1, 9, false);
        x.run(1);
        CHECK.due("held(1, 1)", x.held(1, 1), 1);
        x.run(1);
        CHECK.due("the first part has gone on", x.held(0, 3), 1);
        CHECK.due("the read is still held", x.held(1, 1), 1);
        x.run(1);
        CHECK.due("the read made its second part first", x.held(1, 1), 0);
        CHECK.due("the configuration write has no room", x.word(1, 1), 6);
        CHECK.due("held(1, 2)", x.held(1, 2), 1);
        x.run(1);
        CHECK.due("then it has", x.word(1, 1), 77);
        CHECK.due("and the write behind it is written", x.word(1, 2), 9);
        x.run(3);
        CHECK.due("data(0, 0, 1) is what the memory held", x.data(0, 0, 1), 6);
        // Without room the target goes on to the next transaction.
        BusBridge y = Check.bridge("buffer 1 3 1; credit 0 3 0; latency 1 0;");
        y.configure(0, 0, 1, false);
        y.configure(0, 1, 2, false);
        y.post(0, 2, 1, 3, false);
        y.run(9);
        CHECK.due("written", y.word(1, 0), 1);
        CHECK.due("not written", y.word(1, 1), 0);
        CHECK.due("written past it", y.word(1, 2), 3);
        CHECK.due("held(1, 2)", y.held(1, 2), 1);
        CHECK.due("waiting(1)", y.waiting(1), 1);
        // A read's later part has what the memory holds then.
        BusBridge z = Check.bridge("buffer 1 3 1; credit 0 3 1; split 1; latency 1 0; latency 0 9;");
        z.read(0, 0, 3, false);
        z.run(2);
        z.post(0, 0, 4, 50, false);
        z.run(60);
        CHECK.due("data(0, 0, 0)", z.data(0, 0, 0), 0);
        CHECK.due("data(0, 0, 1)", z.data(0, 0, 1), 0);
        CHECK.due("data(0, 0, 2)", z.data(0, 0, 2), 52);
    }

    private static void orderOfWork() {
        // Both are due in tick 5: the one that was accepted first is written first.
        BusBridge x = Check.bridge("latency 1 4-tick;");
        x.post(0, 0, 1, 1, false);
        x.post(0, 0, 1, 2, false);
        x.run(4);
        CHECK.due("word(1, 0) too early", x.word(1, 0), 0);
        x.run(1);
        CHECK.due("word(1, 0)", x.word(1, 0), 2);
        // A read that is accepted after a write but works before it sees the old word.
        BusBridge y = Check.bridge("latency 1 10-kind*10; latency 0 0; word 1 0 8;");
        y.post(0, 0, 1, 1, false);
        y.read(0, 0, 1, false);
        y.run(20);
        CHECK.due("data(0, 0, 0)", y.data(0, 0, 0), 8);
        CHECK.due("word(1, 0)", y.word(1, 0), 1);
    }

    private static void tagsAndData() {
        BusBridge x = Check.bridge("tags 2; word 0 0 3;");
        CHECK.due("tagState free", x.tagState(1, 0), 0);
        CHECK.due("stored free", x.stored(1, 0), 0);
        CHECK.badState("data of a free tag", () -> x.data(1, 0, 0));
        x.read(1, 0, 1, false);
        x.configure(1, 1, 4, false);
        CHECK.due("tagState pending", x.tagState(1, 0), 1);
        CHECK.due("tagState pending", x.tagState(1, 1), 1);
        CHECK.due("the other side's tag", x.tagState(0, 0), 0);
        CHECK.badState("data of a pending tag", () -> x.data(1, 0, 0));
        x.run(9);
        CHECK.due("tagState complete", x.tagState(1, 0), 2);
        CHECK.due("tagState complete", x.tagState(1, 1), 2);
        CHECK.due("stored(1, 0)", x.stored(1, 0), 1);
        CHECK.due("stored(1, 1)", x.stored(1, 1), 0);
        CHECK.due("data(1, 0, 0)", x.data(1, 0, 0), 3);
        int[] indexes = {-1, 1, 2, 4, 31, 32, Integer.MIN_VALUE, Integer.MAX_VALUE};
        for (int index : indexes) {
            CHECK.badState("data(1, 0, " + index + ")", () -> x.data(1, 0, index));
        }
        CHECK.badState("data of a configuration write", () -> x.data(1, 1, 0));
    }

    private static void wrongInputs() {
        BusBridge x = Check.bridge("tags 3;");
        int[] sides = {-1, 2, Integer.MIN_VALUE, Integer.MAX_VALUE};
        for (int side : sides) {
            CHECK.outOfBounds("held", () -> x.held(side, 0));
            CHECK.outOfBounds("word", () -> x.word(side, 0));
            CHECK.outOfBounds("tagState", () -> x.tagState(side, 0));
            CHECK.outOfBounds("stored", () -> x.stored(side, 0));
            CHECK.outOfBounds("data", () -> x.data(side, 0, 0));
        }
        int[] tags = {-1, 3, 8, Integer.MIN_VALUE, Integer.MAX_VALUE};
        for (int tag : tags) {
            CHECK.outOfBounds("tagState", () -> x.tagState(0, tag));
            CHECK.outOfBounds("stored", () -> x.stored(1, tag));
            CHECK.outOfBounds("data", () -> x.data(0, tag, -1));
        }
        CHECK.outOfBounds("held(0, -1)", () -> x.held(0, -1));
        CHECK.outOfBounds("held(0, 4)", () -> x.held(0, 4));
        CHECK.outOfBounds("word(0, -1)", () -> x.word(0, -1));
        CHECK.outOfBounds("word(1, 16)", () -> x.word(1, 16));
        CHECK.due("word(1, 15)", x.word(1, 15), 0);
    }
}
