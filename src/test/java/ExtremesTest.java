import java.util.List;

/** Any arguments in any state: a call answers, or throws exactly what its signature in the document names. */
public final class ExtremesTest {
    private static final Check CHECK = new Check("ExtremesTest");
    private static final int[] NUMBERS = {
        Integer.MIN_VALUE, Integer.MIN_VALUE + 1, -65536, -17, -2, -1, 0, 1, 2, 3, 4, 5, 7, 8, 9, 11, 15, 16, 17, 20, 23, 24, 31, 32, 33,
        63, 64, 255, 256, 299, 300, 301, 600, 601, 9999, 10000, 65536, 1 << 30, Integer.MAX_VALUE - 1, Integer.MAX_VALUE,
    };
    private static final List<String> BOUNDS = List.of("java.lang.IndexOutOfBoundsException");
    private static final List<String> ARGUMENT = List.of("java.lang.IllegalArgumentException");
    private static final List<String> BOUNDS_STATE = List.of(BOUNDS.get(0), "java.lang.IllegalStateException");
    private static final List<String> ARGUMENT_STATE = List.of(ARGUMENT.get(0), "java.lang.IllegalStateException");
    private static final List<String> ALL = List.of(BOUNDS.get(0), ARGUMENT.get(0), "java.lang.IllegalStateException");

    public static void main(String[] args) {
        extremesOf(new BusBridge());
        BusBridge busy = Check.bridge("tags 3; split 1; latency 1 4; credit 1 0 1; word 0 5 6;");
        ChangeEdges.busy(busy);
        extremesOf(busy);
        BusBridge last = Check.bridge("tags 8; buffer 0 3 1; latency 0 9999*9999*9999; latency 1 tick%0-1;");
        Edges.runTo(last, 9999);
        extremesOf(last);
        CHECK.end();
    }

    /** A throw that the method's promise does not name, or one of the machine's own classes, is wrong. */
    private static void call(String name, List<String> allowed, Check.Call body) {
        String thrown = "";
        try {
            body.make();
        } catch (RuntimeException e) {
            thrown = e.getClass().getName();
        }
        CHECK.due(name + " throws " + thrown, thrown.isEmpty() || allowed.contains(thrown), true);
    }

    private static void extremesOf(BusBridge x) {
        for (int a : NUMBERS) {
            ofOne(x, a);
            for (int b : NUMBERS) {
                ofTwo(x, a, b);
                for (int c : NUMBERS) {
                    ofThree(x, a, b, c);
                }
            }
        }
    }

    private static void ofOne(BusBridge x, int a) {
        call("append", List.of(), () -> x.append(a, a, a, a, a));
        call("parse", ARGUMENT, () -> x.parse(a));
        call("waiting", BOUNDS, () -> x.waiting(a));
        call("next", BOUNDS, () -> x.next(a));
        call("forwarded", BOUNDS, () -> x.forwarded(a));
        call("passings", BOUNDS, () -> x.passings(a));
        call("utilisation", BOUNDS, () -> x.utilisation(a));
        call("averageWait", BOUNDS, () -> x.averageWait(a));
        call("run", ARGUMENT_STATE, () -> x.run(a));
        call("saveSnapshot", BOUNDS, () -> x.saveSnapshot(a));
        call("restoreSnapshot", BOUNDS_STATE, () -> x.restoreSnapshot(a));
        call("errorPosition", List.of(), x::errorPosition);
        call("tick", List.of(), x::tick);
        call("isSafe", List.of(), x::isSafe);
        call("ratioBits", List.of(), x::ratioBits);
        call("ticksToRest", List.of(), x::ticksToRest);
        call("isStuck", List.of(), x::isStuck);
        call("undo", List.of(), x::undo);
    }

    private static void ofTwo(BusBridge x, int a, int b) {
        call("mayPass", BOUNDS, () -> x.mayPass(a, b, a < b));
        call("holds", BOUNDS, () -> x.holds(a, b));
        call("kindAt", BOUNDS, () -> x.kindAt(a, b));
        call("tagAt", BOUNDS, () -> x.tagAt(a, b));
        call("blockers", BOUNDS, () -> x.blockers(a, b));
        call("held", BOUNDS, () -> x.held(a, b));
        call("word", BOUNDS, () -> x.word(a, b));
        call("tagState", BOUNDS, () -> x.tagState(a, b));
        call("stored", BOUNDS, () -> x.stored(a, b));
        call("completeTick", BOUNDS, () -> x.completeTick(a, b));
        call("release", BOUNDS_STATE, () -> x.release(a, b));
    }

    private static void ofThree(BusBridge x, int a, int b, int c) {
        call("data", BOUNDS_STATE, () -> x.data(a, b, c));
        call("post", ALL, () -> x.post(a, b, c, b * c, b < c));
        call("read", ALL, () -> x.read(a, b, c, b < c));
        call("configure", ALL, () -> x.configure(a, b, c, b < c));
        if (b % 3 == 1 && c > 0) {
            call("run", ARGUMENT_STATE, () -> x.run(1));
        }
    }
}
