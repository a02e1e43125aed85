/** A check of boundary cases, each under the words of the document that name it. */
final class Edges extends Check {
    interface Play {
        void on(BusBridge x);
    }

    private final Document document;
    private String words = "";

    Edges(Document document) {
        super("EdgesTest");
        this.document = document;
    }

    @Override
    String heading() {
        return "\"" + words + "\": ";
    }

    /** What follows tests these words of a promise, or of the description (0). */
    void says(int section, String quoted) {
        words = quoted;
        due("the document has these words in section " + section, document.quote(section, quoted), true);
    }

    /** These words name no boundary case. */
    void namesNone(int section, String quoted) {
        says(section, quoted);
    }

    void everythingIsQuoted() {
        words = "";
        dueText("what no test has quoted", String.join("\n", document.rest()), "");
    }

    void right(String text) {
        BusBridge x = new BusBridge();
        due("parse of " + text, parse(x, text), 0);
        due("errorPosition() of " + text, x.errorPosition(), -1);
    }

    void wrong(String text, int code, int position) {
        BusBridge x = new BusBridge();
        due("parse of " + text, parse(x, text), code);
        due("errorPosition() of " + text, x.errorPosition(), position);
    }

    /** Two objects get the same calls, then one of them a call that must throw; nothing tells them apart. */
    void refused(String call, Class<?> exception, Play before, Play refusedCall) {
        BusBridge one = new BusBridge();
        BusBridge twin = new BusBridge();
        before.on(one);
        before.on(twin);
        dueThrow(call, () -> refusedCall.on(one), exception);
        dueText("everything after " + call, Look.through(one), Look.through(twin));
    }

    /** The same for a call that answers something and must change nothing. */
    void changesNothing(String call, Play before, Play quietCall) {
        BusBridge one = new BusBridge();
        BusBridge twin = new BusBridge();
        before.on(one);
        before.on(twin);
        quietCall.on(one);
        dueText("everything after " + call, Look.through(one), Look.through(twin));
    }

    /** Issues a transaction of a kind from a side, of one word at address 0; a completion by a read of the other side. */
    static void issue(BusBridge x, int side, int kind, boolean relaxed) {
        switch (kind) {
            case 0:
                x.post(side, 0, 1, 5, relaxed);
                break;
            case 1:
                x.read(side, 0, 1, relaxed);
                break;
            case 2:
                x.configure(side, 0, 5, relaxed);
                break;
            default:
                x.read(1 - side, 0, 1, relaxed);
        }
    }

    /** Runs a number of ticks that can be larger than that of one call. */
    static void runTo(BusBridge x, int tick) {
        while (x.tick() < tick) {
            x.run(Math.min(300, tick - x.tick()));
        }
    }
}
