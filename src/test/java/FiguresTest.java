/** Promises 19 to 23: forwarded, passings, utilisation, averageWait and ratioBits. */
public final class FiguresTest {
    private static final Check CHECK = new Check("FiguresTest");

    public static void main(String[] args) {
        nothingYet();
        countsAndPassings();
        waits();
        ratios();
        wrongInputs();
        CHECK.end();
    }

    private static void nothingYet() {
        BusBridge x = new BusBridge();
        for (int side = 0; side < 2; side++) {
            CHECK.due("forwarded", x.forwarded(side), 0);
            CHECK.due("passings", x.passings(side), 0);
            CHECK.dueDouble("utilisation", x.utilisation(side), 0.0);
            CHECK.dueDouble("averageWait", x.averageWait(side), 0.0);
        }
        CHECK.due("ratioBits()", x.ratioBits(), 0);
        x.run(3);
        CHECK.dueDouble("utilisation(0) in tick 3", x.utilisation(0), 0.0);
    }

    private static void countsAndPassings() {
        // Nothing but posted writes can go: each passes the reads before it.
        BusBridge x = Check.bridge("credit 1 1 0; credit 1 0 8;");
        x.read(0, 0, 1, false);
        x.read(0, 0, 1, false);
        x.post(0, 0, 1, 1, false);
        x.post(0, 0, 1, 2, false);
        x.run(1);
        CHECK.due("passings(0)", x.passings(0), 2);
        CHECK.due("forwarded(0)", x.forwarded(0), 1);
        CHECK.dueDouble("utilisation(0)", x.utilisation(0), 1.0);
        x.run(2);
        CHECK.due("passings(0)", x.passings(0), 4);
        CHECK.due("forwarded(0)", x.forwarded(0), 2);
        CHECK.due("forwarded(1)", x.forwarded(1), 0);
        CHECK.due("passings(1)", x.passings(1), 0);
        CHECK.dueDouble("utilisation(0)", x.utilisation(0), 2.0 / 3.0);
        CHECK.dueDouble("averageWait(0)", x.averageWait(0), 1.5f);
    }

    private static void waits() {
        BusBridge x = new BusBridge();
        x.run(4);
        x.post(0, 0, 1, 1, false);
        x.post(0, 0, 1, 1, false);
        x.run(1);
        x.post(0, 0, 1, 1, false);
        CHECK.dueDouble("averageWait(0): 1", x.averageWait(0), 1.0f);
        x.run(2);
        // Came in ticks 4, 4 and 5, forwarded in 5, 6 and 7.
        CHECK.dueDouble("averageWait(0): 1, 2, 2", x.averageWait(0), 5.0f / 3.0f);
        CHECK.dueDouble("utilisation(0)", x.utilisation(0), 3.0 / 7.0);
        // A completion that goes on in the tick in which it came has waited 0 ticks.
        BusBridge y = new BusBridge();
        y.read(0, 0, 4, false);
        y.run(3);
        CHECK.due("forwarded(1)", y.forwarded(1), 1);
        CHECK.dueDouble("averageWait(1): 0", y.averageWait(1), 0.0f);
        CHECK.due("ratioBits() with a divisor 0", y.ratioBits(), 0);
        y.run(1);
        CHECK.dueDouble("averageWait(1): 0, 1", y.averageWait(1), 0.5f);
        CHECK.due("ratioBits()", y.ratioBits(), Float.floatToIntBits(1.0f / 0.5f));
    }

    private static void ratios() {
        BusBridge x = new BusBridge();
        x.post(1, 0, 1, 1, false);
        x.run(1);
        CHECK.due("ratioBits() of 0.0f", x.ratioBits(), 0);
        // Long and short waits on both sides give quotients far below and above 1.
        for (int first = 1; first < 100; first += 7) {
            for (int second = 1; second < 100; second += 5) {
                BusBridge y = Check.bridge("credit 0 0 1; credit 1 0 1; latency 0 " + second % 50 + "; latency 1 " + first % 50 + ";");
                for (int i = 0; i < 4; i++) {
                    y.post(0, 0, 1, 1, false);
                    y.post(1, 0, 1, 1, false);
                }
                y.run(first);
                y.run(second);
                float quotient = y.averageWait(0) / y.averageWait(1);
                CHECK.due("ratioBits()", y.ratioBits(), Float.floatToIntBits(quotient));
            }
        }
        BusBridge z = Check.bridge("credit 1 0 0; table 1 0 1;");
        z.post(1, 0, 1, 1, false);
        z.run(1);
        CHECK.due("ratioBits() of 0 / 1", z.ratioBits(), 0);
    }

    private static void wrongInputs() {
        BusBridge x = new BusBridge();
        int[] sides = {-1, 2, Integer.MIN_VALUE, Integer.MAX_VALUE};
        for (int side : sides) {
            CHECK.outOfBounds("forwarded", () -> x.forwarded(side));
            CHECK.outOfBounds("passings", () -> x.passings(side));
            CHECK.outOfBounds("utilisation", () -> x.utilisation(side));
            CHECK.outOfBounds("averageWait", () -> x.averageWait(side));
        }
    }
}
