/** The boundary cases of the latencies: what a sum gives, and in which tick. */
final class SumEdges {
    /** 65536 times 32768 is the smallest int. */
    private static final String SMALLEST = "256*256*(256*128)";

    private final Edges e;

    private SumEdges(Edges e) {
        this.e = e;
    }

    static void all(Edges e) {
        SumEdges t = new SumEdges(e);
        t.whenAccepted();
        t.kinds();
        t.addresses();
        t.words();
        t.ticks();
        t.overflow();
        t.division();
        t.fromLeftToRight();
        t.longAndDeepSums();
        t.limits();
    }

    /** The latency of a posted write of 3 words to address 5 from side 0, accepted in tick 1. */
    private void gives(String sum, int due) {
        BusBridge x = Check.bridge("latency 1 " + sum + ";");
        x.post(0, 5, 3, 1, false);
        x.run(1);
        e.due("latency of " + sum, ticksHeld(x, 1, 0) - 1, due);
        e.due("tick()", x.tick(), due + 2);
    }

    /** After how many ticks the target holds none of a kind any more. */
    private static int ticksHeld(BusBridge x, int side, int kind) {
        int ticks = 0;
        while (x.held(side, kind) > 0 && ticks < 100) {
            x.run(1);
            ticks++;
        }
        return ticks;
    }

    private void whenAccepted() {
        e.says(0, "A sum is evaluated when a target accepts a transaction:");
        // One credit: the second write is issued in tick 0 and accepted in tick 3, the third in tick 7.
        BusBridge x = Check.bridge("credit 1 0 1; latency 1 tick;");
        for (int i = 0; i < 3; i++) {
            x.post(0, i, 1, 9, false);
        }
        x.run(2);
        e.due("word(1, 0) in 2", x.word(1, 0), 0);
        x.run(1);
        e.due("word(1, 0) in 3", x.word(1, 0), 9);
        x.run(3);
        e.due("word(1, 1) in 6", x.word(1, 1), 0);
        x.run(1);
        e.due("word(1, 1) in 7", x.word(1, 1), 9);
        x.run(7);
        e.due("word(1, 2) in 14", x.word(1, 2), 0);
        x.run(1);
        e.due("word(1, 2) in 15", x.word(1, 2), 9);
    }

    private void kinds() {
        e.says(0, "kind is its kind,");
        for (int side = 0; side < 2; side++) {
            for (int kind = 0; kind < 4; kind++) {
                int other = 1 - side;
                BusBridge x = Check.bridge("latency " + side + " kind*7+2; latency " + other + " 0;");
                Edges.issue(x, other, kind, false);
                x.run(kind == 3 ? 2 : 1);
                e.due("held", x.held(side, kind), 1);
                e.due("latency of the kind " + kind, ticksHeld(x, side, kind) - 1, kind * 7 + 2);
            }
        }
    }

    private void addresses() {
        e.says(0, "address its first address (for a completion that of its first word, or of its configuration write),");
        for (int address = 0; address < 16; address++) {
            int most = Math.min(4, 16 - address);
            BusBridge x = Check.bridge("latency 1 address*2; latency 0 address*2; split 1;");
            x.post(0, address, most, 1, false);
            x.run(1);
            e.due("latency of a posted write", ticksHeld(x, 1, 0) - 1, address * 2);
            x.configure(0, address, 1, false);
            x.run(1);
            e.due("latency of a configuration write", ticksHeld(x, 1, 2) - 1, address * 2);
            e.due("latency of its completion", ticksHeld(x, 0, 3) - 1, address * 2);
            x.read(0, address, 1, false);
            x.run(1);
            e.due("latency of a read", ticksHeld(x, 1, 1) - 1, address * 2);
            e.due("latency of its completion", ticksHeld(x, 0, 3) - 1, address * 2);
        }
        // The completions of a read have the addresses of their own first words: 4, 6 and 7, 10 and 13.
        completionsOf("split 2; latency 0 address*2;", 4, 3, 4 * 2, 6 * 2);
        completionsOf("split 1; latency 0 address*2;", 6, 2, 6 * 2, 7 * 2);
        completionsOf("split 3; latency 0 address*2;", 10, 4, 10 * 2, 13 * 2);
    }

    /** A read of two completions, accepted one after the other with these latencies. */
    private void completionsOf(String text, int address, int words, int first, int second) {
        BusBridge x = Check.bridge(text + "latency 1 0;");
        x.read(0, address, words, false);
        x.run(2);
        int made = x.tick();
        e.due("completions", x.held(0, 3) + x.waiting(1), 2);
        Edges.runTo(x, made + first);
        e.due("stored too early", x.stored(0, 0), 0);
        x.run(1);
        e.due("stored then", x.stored(0, 0) > 0, true);
        e.due("completeTick(0, 0)", x.completeTick(0, 0), made + 1 + second + 1);
    }

    private void words() {
        e.says(0, "words its number of words (0 for a completion without data),");
        for (int words = 1; words <= 4; words++) {
            BusBridge x = Check.bridge("latency 1 words*10; latency 0 words*10+1; split 4;");
            x.post(0, 0, words, 1, false);
            x.run(1);
            e.due("latency of a posted write", ticksHeld(x, 1, 0) - 1, Math.min(50, words * 10));
            x.read(0, 0, words, false);
            x.run(1);
            e.due("latency of a read", ticksHeld(x, 1, 1) - 1, words * 10);
            e.due("latency of its completion", ticksHeld(x, 0, 3) - 1, words * 10 + 1);
            x.configure(0, 0, 1, false);
            x.run(1);
            e.due("latency of a configuration write", ticksHeld(x, 1, 2) - 1, 10);
            e.due("latency of its completion", ticksHeld(x, 0, 3) - 1, 1);
        }
        // Parts of 2 and 1 words, of 3 and 1, of 1 and 1.
        completionsOf("split 2; latency 0 (4-words)*5;", 0, 3, (4 - 2) * 5, (4 - 1) * 5);
        completionsOf("split 3; latency 0 (4-words)*5;", 0, 4, (4 - 3) * 5, (4 - 1) * 5);
        completionsOf("split 1; latency 0 (4-words)*5;", 0, 2, (4 - 1) * 5, (4 - 1) * 5);
    }

    private void ticks() {
        e.says(0, "tick is the number of the tick.");
        gives("tick", 1);
        BusBridge x = Check.bridge("latency 1 tick-9990;");
        Edges.runTo(x, 9990);
        x.post(0, 0, 1, 7, false);
        x.run(2);
        e.due("word(1, 0) in 9992", x.word(1, 0), 0);
        x.run(1);
        e.due("word(1, 0) in 9993", x.word(1, 0), 7);
    }

    private void overflow() {
        e.says(0, "Arithmetic is that of int with overflow;");
        gives(SMALLEST, 0);
        gives(SMALLEST + "-1", 50);
        gives(SMALLEST + "-1+1", 0);
        gives("(" + SMALLEST + "-1)*2+2+7", 7);
        gives("0-" + SMALLEST, 0);
        gives("0-" + SMALLEST + "-1", 50);
        gives("256*256*(256*256)+7", 7);
        gives("256*256*256*256+7", 7);
        gives("9999*9999*9999*9999", Math.max(0, Math.min(50, 9999 * 9999 * 9999 * 9999)));
        gives("9999*9999*9999%100", Math.max(0, 9999 * 9999 * 9999 % 100));
        gives("20-9999*9999*9999%41", 20 - 9999 * 9999 * 9999 % 41);
        gives(SMALLEST + "+" + SMALLEST + "+3", 3);
        gives("(0-1-" + SMALLEST + ")/(256*256*256)", 50);
        gives("(0-1-" + SMALLEST + ")/(256*256*1024)", 31);
    }

    private void division() {
        e.says(0, "/ truncates toward 0, % gives its remainder, and both give 0 for a divisor 0.");
        gives("7/2", 3);
        gives("10+(0-7)/2", 7);
        gives("10+7/(0-2)", 7);
        gives("10+(0-7)/(0-2)", 13);
        gives("10+(0-1)/2", 10);
        gives("1/2", 0);
        gives("7%2", 1);
        gives("10+(0-7)%2", 9);
        gives("10+7%(0-2)", 11);
        gives("10+(0-7)%(0-2)", 9);
        gives("10+(0-8)%2", 10);
        gives("7/0+3", 3);
        gives("7%0+3", 3);
        gives("0/0+3", 3);
        gives("0%0+3", 3);
        gives("(0-7)/0+3", 3);
        gives("(0-7)%0+3", 3);
        gives("7/(4-4)+3", 3);
        gives("7%kind+3", 3);
        gives("7/kind/kind+3", 3);
        gives("7/0*5+3", 3);
        gives("0/7+3", 3);
        // The smallest int by -1 is itself again, and nothing remains.
        gives(SMALLEST + "/(0-1)", 0);
        gives(SMALLEST + "/(0-1)-1", 50);
        gives(SMALLEST + "%(0-1)+5", 5);
        gives(SMALLEST + "/0+5", 5);
        gives(SMALLEST + "%0+5", 5);
        gives("5-" + SMALLEST + "/(256*256*1024)", 37);
    }

    private void fromLeftToRight() {
        e.says(0, "Operators of the same rank are applied from left to right.");
        gives("9-4-3", 2);
        gives("9-4+3", 8);
        gives("9+4-3", 10);
        gives("9-(4-3)", 8);
        gives("48/4/3", 4);
        gives("48/4*3", 36);
        gives("3*48/4", 36);
        gives("48/(4*3)", 4);
        gives("5*7%4", 3);
        gives("7%4*5", 15);
        gives("29%10%4", 1);
        gives("29%10/4", 2);
        gives("29/10%4", 2);
        gives("2+3*4", 14);
        gives("2*3+4", 10);
        gives("20-2*3", 14);
        gives("20-6/2", 17);
        gives("20-7%4", 17);
        gives("1+2*3-4/2+5%3", 7);
        gives("(1+2)*(3+4)", 21);
        gives("20-(2+3)*(1+1)-1", 9);
        gives("address+words*10", 35);
        gives("address-words-tick-kind", 1);
    }

    private void longAndDeepSums() {
        gives("1" + "+1".repeat(40), 41);
        gives("1" + "+1-1".repeat(140) + "+7", 8);
        gives("(((((9)))))", 9);
        gives("1+2*(1+2*(1+2*(1+2*(1+2*(1-1*1)))))", 31);
        gives("40-2*(1+2*(1+2*(1+2*(1+2*(1+1/2)))))", 0);
        gives("1*(1+1*(1+1*(1+1*(1+1*(1+1*7)))))", 12);
        gives("(((((1)+1)+1)+1)+1)+1", 6);
        gives("1+(1+(1+(1+(1+(1)))))", 6);
    }

    private void limits() {
        e.says(0, "The latency is the value, but at least 0 and at most 50.");
        gives("0", 0);
        gives("0-1", 0);
        gives("0-9999", 0);
        gives("1", 1);
        gives("49", 49);
        gives("50", 50);
        gives("51", 50);
        gives("9999", 50);
        // Only the value of the whole sum has these limits.
        gives("60-20", 40);
        gives("0-5+8", 3);
        gives("(60)-20", 40);
        gives("(0-5)+8", 3);
    }
}
