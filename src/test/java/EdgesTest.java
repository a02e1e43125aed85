import java.io.IOException;
import java.nio.file.Path;

/**
 * Promises 1 to 34 and the description, sentence by sentence: what tests a boundary case stands under the
 * document's own words, and no words are left out.
 */
public final class EdgesTest {
    private static final int MOST_CALLS = 512;

    private EdgesTest() {
    }

    public static void main(String[] args) throws IOException {
        Edges e = new Edges(new Document(Path.of("../shared/DOC.md")));
        TextEdges.all(e);
        SettingEdges.all(e);
        SumEdges.all(e);
        BridgeEdges.all(e);
        InputEdges.all(e);
        AnswerEdges.all(e);
        PredictionEdges.all(e);
        ChangeEdges.all(e);
        mostCalls(e);
        namesNoBoundary(e);
        e.everythingIsQuoted();
        e.end();
    }

    private static void mostCalls(Edges e) {
        e.says(0, "An object is used for at most 512 calls after it has been made; what later calls answer is free.");
        BusBridge x = new BusBridge();
        for (int i = 1; i <= MOST_CALLS - 4; i += 2) {
            e.due("run(39)", x.run(39), i == 1 ? 0 : 1);
            e.due("post", x.post(0, i % 16, 1, i, false), 1);
        }
        e.due("tick()", x.tick(), 39 * 254);
        e.due("run(3)", x.run(3), 1);
        e.due("word of the last write", x.word(1, 507 % 16), 507);
        e.due("the last call", x.forwarded(0), 254);
    }

    private static void namesNoBoundary(Edges e) {
        e.namesNone(0, "A simulator of a bridge between two buses: posted writes, reads and configuration writes wait in buffers and are "
                + "forwarded in an order that a table permits; the targets work on them with latencies, split their answers into several "
                + "completions, and need credits and free buffers for it; completions find their requests by tags. It tells what blocks what, "
                + "whether the table is safe, whether everything is stuck, and how well the bridge does.");
        e.namesNone(0, "BRIDGE TEXT.");
        e.namesNone(0, "TRANSACTIONS.");
        e.namesNone(0, "BUFFERS.");
        e.namesNone(0, "TARGETS.");
        e.namesNone(0, "CHANGES.");
        e.namesNone(2, "---- bridge");
        e.namesNone(6, "---- the table");
        e.namesNone(9, "---- what waits");
        e.namesNone(14, "---- targets, memory and tags");
        e.namesNone(19, "---- figures");
        e.namesNone(27, "---- changes");
        e.namesNone(32, "---- undo and snapshots");
        e.namesNone(0, "The constants:");
        e.namesNone(0, "The constructor and the methods follow, a promise each: the signature, then what it does.");
    }
}
