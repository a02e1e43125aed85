/** What can be seen of an object, as a text: two objects in the same state give the same text. */
final class Look {
    private interface Answer {
        Object get();
    }

    private Look() {
    }

    /** What the calls that change nothing answer. */
    static String at(BusBridge x) {
        StringBuilder text = new StringBuilder();
        text.append("tick ").append(x.tick()).append(" error ").append(x.errorPosition()).append(" table ");
        for (int i = 0; i < 32; i++) {
            text.append(x.mayPass(i / 8, i / 2 % 4, i % 2 == 1) ? 1 : 0);
        }
        text.append(" safe ").append(x.isSafe()).append(" rest ").append(x.ticksToRest()).append(x.isStuck());
        text.append(" ratio ").append(x.ratioBits());
        for (int side = 0; side < 2; side++) {
            text.append("\n side ").append(side);
            waiting(text, x, side);
            target(text, x, side);
            tags(text, x, side);
            figures(text, x, side);
        }
        return text.append('\n').toString();
    }

    private static void waiting(StringBuilder text, BusBridge x, int side) {
        text.append(" waiting ").append(x.waiting(side)).append(" next ").append(x.next(side)).append(':');
        for (int i = 0; i < x.waiting(side); i++) {
            text.append(' ').append(x.kindAt(side, i)).append('/').append(x.tagAt(side, i)).append('/').append(x.blockers(side, i));
        }
    }

    private static void target(StringBuilder text, BusBridge x, int side) {
        text.append(" held");
        for (int kind = 0; kind < 4; kind++) {
            text.append(' ').append(x.held(side, kind));
        }
        text.append(" memory");
        for (int address = 0; address < 16; address++) {
            text.append(' ').append(x.word(side, address));
        }
    }

    private static void tags(StringBuilder text, BusBridge x, int side) {
        text.append(" tags");
        for (int i = 0; i < 8; i++) {
            int tag = i;
            text.append(' ').append(answer(() -> x.tagState(side, tag))).append('/').append(answer(() -> x.stored(side, tag)));
            text.append('/').append(answer(() -> x.completeTick(side, tag)));
            for (int k = 0; k < 4; k++) {
                int index = k;
                text.append('/').append(answer(() -> x.data(side, tag, index)));
            }
        }
    }

    private static void figures(StringBuilder text, BusBridge x, int side) {
        text.append(" figures ").append(x.forwarded(side)).append(' ').append(x.passings(side));
        text.append(' ').append(x.utilisation(side)).append(' ').append(x.averageWait(side));
    }

    private static String answer(Answer answer) {
        try {
            return String.valueOf(answer.get());
        } catch (IndexOutOfBoundsException | IllegalStateException thrown) {
            return "-";
        }
    }

    /** Also what comes to light by undoing, restoring and parsing; the object is used up by it. */
    static String through(BusBridge x) {
        StringBuilder text = new StringBuilder(at(x));
        int left = x.undo();
        while (left >= 0) {
            text.append("undo ").append(left).append(": ").append(at(x));
            left = x.undo();
        }
        text.append("undo ").append(left).append(": ").append(at(x));
        for (int i = 0; i < 2; i++) {
            int slot = i;
            text.append("slot ").append(answer(() -> x.restoreSnapshot(slot))).append(": ").append(at(x));
        }
        int length = x.append(0x20202020, 0x20202020, 0x20202020, 0x20202020, 0x20202020);
        text.append("input ").append(length).append(" parse ").append(x.parse(length < 0 ? 600 : length));
        return text.append(": ").append(at(x)).toString();
    }
}
