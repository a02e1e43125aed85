/** Promises 27 to 31: run, post, read, configure and release. */
public final class ChangesTest {
    private static final Check CHECK = new Check("ChangesTest");
    private static final int MIN = Integer.MIN_VALUE;
    private static final int MAX = Integer.MAX_VALUE;

    public static void main(String[] args) {
        run();
        oneForEachSide();
        post();
        read();
        configure();
        release();
        throwsChangeNothing();
        CHECK.end();
    }

    private static void run() {
        BusBridge x = new BusBridge();
        int[] wrong = {0, -1, 301, MIN, MAX};
        for (int ticks : wrong) {
            CHECK.badArgument("run(" + ticks + ")", () -> x.run(ticks));
        }
        CHECK.due("run(300)", x.run(300), 0);
        for (int i = 1; i < 33; i++) {
            x.run(300);
        }
        CHECK.due("tick()", x.tick(), 9900);
        CHECK.badState("run(100)", () -> x.run(100));
        CHECK.badArgument("run(301) is checked first", () -> x.run(301));
        CHECK.due("run(99)", x.run(99), 0);
        CHECK.due("tick()", x.tick(), 9999);
        CHECK.badState("run(1)", () -> x.run(1));
        CHECK.badState("run(300)", () -> x.run(300));
        CHECK.due("undo()", x.undo(), 9);
        CHECK.due("tick()", x.tick(), 9900);
    }

    private static void oneForEachSide() {
        BusBridge x = new BusBridge();
        x.post(0, 0, 1, 1, false);
        x.post(0, 0, 1, 1, false);
        x.post(1, 0, 1, 1, false);
        CHECK.due("run(1)", x.run(1), 2);
        CHECK.due("run(1)", x.run(1), 1);
        CHECK.due("run(1)", x.run(1), 0);
        BusBridge y = new BusBridge();
        y.read(0, 0, 4, false);
        CHECK.due("run(300)", y.run(300), 3);
    }

    private static void post() {
        BusBridge x = Check.bridge("buffer 0 0 2; buffer 1 0 1;");
        CHECK.due("post", x.post(0, 12, 4, MIN, false), 1);
        CHECK.due("post", x.post(0, 15, 1, MAX, true), 2);
        CHECK.badState("post without room", () -> x.post(0, 0, 1, 1, false));
        CHECK.due("post from the other side", x.post(1, 0, 1, 1, false), 1);
        CHECK.badState("post without room", () -> x.post(1, 0, 1, 1, true));
        int[] sides = {-1, 2, MIN, MAX};
        for (int side : sides) {
            CHECK.outOfBounds("post", () -> x.post(side, -1, 0, 1, false));
        }
        int[][] wrong = {{-1, 1}, {16, 1}, {0, 0}, {0, 5}, {0, -1}, {13, 4}, {15, 2}, {MAX, 1}, {1, MAX}, {MIN, MIN}, {MAX, MAX}, {MIN, 4}};
        for (int[] pair : wrong) {
            CHECK.badArgument("post, checked before the room", () -> x.post(0, pair[0], pair[1], 1, false));
        }
        x.run(1);
        CHECK.due("post with room again", x.post(0, 0, 1, 1, false), 2);
        x.run(9);
        CHECK.due("word(1, 12)", x.word(1, 12), MIN);
        CHECK.due("word(1, 14)", x.word(1, 14), MIN + 2);
        CHECK.due("word(1, 15)", x.word(1, 15), MAX);
    }

    private static void read() {
        BusBridge x = Check.bridge("buffer 0 1 2; tags 3;");
        CHECK.due("read", x.read(0, 0, 1, false), 0);
        CHECK.due("read", x.read(0, 12, 4, false), 1);
        CHECK.badState("read without room", () -> x.read(0, 0, 1, false));
        CHECK.due("configure has its own room", x.configure(0, 0, 1, false), 2);
        CHECK.due("read from the other side", x.read(1, 15, 1, false), 0);
        x.run(1);
        CHECK.badState("read without a free tag", () -> x.read(0, 0, 1, false));
        int[] sides = {-1, 2, MIN, MAX};
        for (int side : sides) {
            CHECK.outOfBounds("read", () -> x.read(side, 99, 0, false));
        }
        int[][] wrong = {{-1, 1}, {16, 1}, {0, 0}, {0, 5}, {0, -1}, {13, 4}, {15, 2}, {MAX, 1}, {1, MAX}, {MIN, MIN}, {MAX, MAX}};
        for (int[] pair : wrong) {
            CHECK.badArgument("read, checked before the room", () -> x.read(0, pair[0], pair[1], false));
        }
        x.run(30);
        x.release(0, 1);
        CHECK.due("the lowest free tag", x.read(0, 0, 1, false), 1);
        x.release(0, 2);
        x.release(0, 0);
        CHECK.due("the lowest free tag", x.read(0, 0, 1, false), 0);
    }

    private static void configure() {
        BusBridge x = Check.bridge("buffer 0 2 2; tags 4;");
        CHECK.due("configure", x.configure(0, 15, MIN, false), 0);
        CHECK.due("configure", x.configure(0, 0, MAX, true), 1);
        CHECK.badState("configure without room", () -> x.configure(0, 0, 1, false));
        CHECK.due("read has its own room", x.read(0, 0, 1, false), 2);
        CHECK.due("read has its own room", x.read(0, 0, 1, false), 3);
        CHECK.due("waiting(0)", x.waiting(0), 4);
        x.run(1);
        CHECK.badState("configure without a free tag", () -> x.configure(0, 0, 1, false));
        int[] sides = {-1, 2, MIN, MAX};
        for (int side : sides) {
            CHECK.outOfBounds("configure", () -> x.configure(side, 99, 0, false));
        }
        int[] addresses = {-1, 16, MIN, MAX};
        for (int address : addresses) {
            CHECK.badArgument("configure, checked before the room", () -> x.configure(0, address, 1, false));
        }
        x.run(30);
        CHECK.due("word(1, 15)", x.word(1, 15), MIN);
        CHECK.due("word(1, 0)", x.word(1, 0), MAX);
        CHECK.due("word(1, 1)", x.word(1, 1), 0);
        CHECK.due("release", x.release(0, 0), 0);
        CHECK.due("release", x.release(0, 1), 0);
        CHECK.due("the lowest free tag", x.configure(0, 0, 0, false), 0);
    }

    private static void release() {
        BusBridge x = Check.bridge("tags 2; word 1 0 7; word 1 1 8;");
        CHECK.badState("release of a free tag", () -> x.release(0, 0));
        x.read(0, 0, 3, false);
        CHECK.badState("release of a pending tag", () -> x.release(0, 0));
        x.run(20);
        CHECK.due("release", x.release(0, 0), 3);
        CHECK.due("tagState", x.tagState(0, 0), 0);
        CHECK.due("stored", x.stored(0, 0), 0);
        CHECK.badState("data", () -> x.data(0, 0, 0));
        CHECK.badState("release again", () -> x.release(0, 0));
        CHECK.due("read again", x.read(0, 1, 1, false), 0);
        CHECK.due("stored", x.stored(0, 0), 0);
        CHECK.badState("data", () -> x.data(0, 0, 0));
        x.run(20);
        CHECK.due("data", x.data(0, 0, 0), 8);
        CHECK.badState("data of the earlier read is gone", () -> x.data(0, 0, 1));
        CHECK.outOfBounds("release(-1, 0)", () -> x.release(-1, 0));
        CHECK.outOfBounds("release(2, 0)", () -> x.release(2, 0));
        CHECK.outOfBounds("release(0, -1)", () -> x.release(0, -1));
        CHECK.outOfBounds("release(0, 2)", () -> x.release(0, 2));
        CHECK.outOfBounds("release(0, MIN)", () -> x.release(0, MIN));
    }

    private static void throwsChangeNothing() {
        BusBridge x = Check.bridge("buffer 0 0 1; tags 1;");
        x.post(0, 0, 1, 1, false);
        x.read(0, 0, 1, false);
        CHECK.badState("post", () -> x.post(0, 0, 1, 1, false));
        CHECK.badState("read", () -> x.read(0, 0, 1, false));
        CHECK.badState("configure", () -> x.configure(0, 0, 1, false));
        CHECK.badState("release", () -> x.release(0, 0));
        CHECK.badArgument("run", () -> x.run(0));
        CHECK.due("waiting(0)", x.waiting(0), 2);
        CHECK.due("undo() takes back the read", x.undo(), 1);
        CHECK.due("tagState(0, 0)", x.tagState(0, 0), 0);
        CHECK.due("undo() takes back the post", x.undo(), 0);
        CHECK.due("waiting(0)", x.waiting(0), 0);
        CHECK.due("undo()", x.undo(), -1);
    }
}
