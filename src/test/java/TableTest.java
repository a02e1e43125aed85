/** Promises 6 to 8: mayPass, isSafe and holds. */
public final class TableTest {
    private static final Check CHECK = new Check("TableTest");

    public static void main(String[] args) {
        mayPass();
        isSafe();
        holds();
        CHECK.end();
    }

    private static void mayPass() {
        for (int later = 0; later < 4; later++) {
            for (int earlier = 0; earlier < 4; earlier++) {
                for (int may = 0; may < 2; may++) {
                    // All others have the opposite, so that a mixed-up index is seen.
                    StringBuilder text = new StringBuilder();
                    for (int i = 0; i < 16; i++) {
                        text.append("table ").append(i / 4).append(' ').append(i % 4).append(' ').append(1 - may).append(';');
                    }
                    text.append("table ").append(later).append(' ').append(earlier).append(' ').append(may).append(';');
                    BusBridge x = Check.bridge(text.toString());
                    for (int a = 0; a < 4; a++) {
                        for (int b = 0; b < 4; b++) {
                            boolean due = (a == later && b == earlier) == (may == 1);
                            CHECK.due("mayPass", x.mayPass(a, b, false), due);
                            CHECK.due("mayPass, relaxed", x.mayPass(a, b, true), due || b == 0);
                        }
                    }
                }
            }
        }
        BusBridge x = new BusBridge();
        CHECK.outOfBounds("mayPass(-1, 0)", () -> x.mayPass(-1, 0, false));
        CHECK.outOfBounds("mayPass(4, 0)", () -> x.mayPass(4, 0, true));
        CHECK.outOfBounds("mayPass(0, -1)", () -> x.mayPass(0, -1, true));
        CHECK.outOfBounds("mayPass(0, 4)", () -> x.mayPass(0, 4, false));
        CHECK.outOfBounds("mayPass(MAX, MIN)", () -> x.mayPass(Integer.MAX_VALUE, Integer.MIN_VALUE, false));
    }

    private static void isSafe() {
        CHECK.due("isSafe()", new BusBridge().isSafe(), true);
        for (int later = 0; later < 4; later++) {
            for (int earlier = 0; earlier < 4; earlier++) {
                boolean matters = (later == 0 || later == 3) && (earlier == 1 || earlier == 2);
                BusBridge x = Check.bridge("table " + later + " " + earlier + " 0;");
                CHECK.due("isSafe() without " + later + " before " + earlier, x.isSafe(), !matters);
            }
        }
        for (int side = 0; side < 2; side++) {
            for (int kind = 0; kind < 4; kind++) {
                boolean matters = kind == 0 || kind == 3;
                String statement = "credit " + side + " " + kind;
                CHECK.due("isSafe() with " + statement + " 0", Check.bridge(statement + " 0;").isSafe(), !matters);
                CHECK.due("isSafe() with " + statement + " 1", Check.bridge(statement + " 1;").isSafe(), true);
            }
        }
    }

    private static void holds() {
        BusBridge x = new BusBridge();
        for (int buffer = -1; buffer <= 4; buffer++) {
            for (int kind = -1; kind <= 4; kind++) {
                int b = buffer;
                int k = kind;
                if (b < 0 || b > 3 || k < 0 || k > 3) {
                    CHECK.outOfBounds("holds", () -> x.holds(b, k));
                } else {
                    CHECK.due("holds", x.holds(b, k), b == k);
                }
            }
        }
    }
}
