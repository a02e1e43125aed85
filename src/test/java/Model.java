import java.util.ArrayList;
import java.util.List;

/**
 * The document once more, written for comparison: with objects, lists, deep copies and recursion,
 * and with predictions that follow their definitions word by word.
 */
final class Model {
    static final class Transaction {
        int kind;
        int tag = -1;
        boolean relaxed;
        int address;
        int[] carried = new int[0];
        int words;
        int cameIn;
        int acceptedIn;
        int latency;
        int answered;
        int firstIndex;

        Transaction copy() {
            Transaction t = new Transaction();
            t.kind = kind;
            t.tag = tag;
            t.relaxed = relaxed;
            t.address = address;
            t.carried = carried.clone();
            t.words = words;
            t.cameIn = cameIn;
            t.acceptedIn = acceptedIn;
            t.latency = latency;
            t.answered = answered;
            t.firstIndex = firstIndex;
            return t;
        }

        String show() {
            return "k" + kind + "t" + tag + relaxed + "@" + address + java.util.Arrays.toString(carried) + words + "c" + cameIn
                    + "a" + acceptedIn + "l" + latency + "d" + answered + "f" + firstIndex + ";";
        }
    }

    static final class Tag {
        int state;
        int completionsDue;
        final Integer[] words = new Integer[4];

        Tag copy() {
            Tag t = new Tag();
            t.state = state;
            t.completionsDue = completionsDue;
            System.arraycopy(words, 0, t.words, 0, 4);
            return t;
        }

        int count() {
            int n = 0;
            for (Integer word : words) {
                n += word == null ? 0 : 1;
            }
            return n;
        }
    }

    static final class Side {
        List<Transaction> waiting = new ArrayList<>();
        List<Transaction> held = new ArrayList<>();
        int[] memory = new int[16];
        Tag[] tags = new Tag[0];
        int forwarded;
        int busyTicks;
        int passings;
        long waited;

        Side copy() {
            Side s = new Side();
            for (Transaction t : waiting) {
                s.waiting.add(t.copy());
            }
            for (Transaction t : held) {
                s.held.add(t.copy());
            }
            s.memory = memory.clone();
            s.tags = new Tag[tags.length];
            for (int i = 0; i < tags.length; i++) {
                s.tags[i] = tags[i].copy();
            }
            s.forwarded = forwarded;
            s.busyTicks = busyTicks;
            s.passings = passings;
            s.waited = waited;
            return s;
        }

        int count(List<Transaction> list, int kind) {
            int n = 0;
            for (Transaction t : list) {
                n += t.kind == kind ? 1 : 0;
            }
            return n;
        }

        String show() {
            StringBuilder text = new StringBuilder("W");
            for (Transaction t : waiting) {
                text.append(t.show());
            }
            text.append("H");
            for (Transaction t : held) {
                text.append(t.show());
            }
            for (int word : memory) {
                text.append(word).append(',');
            }
            for (Tag tag : tags) {
                text.append(tag.state).append(tag.completionsDue).append(java.util.Arrays.toString(tag.words));
            }
            return text.append(forwarded).append(' ').append(passings).append(' ').append(waited).toString();
        }
    }

    static final class World {
        int tick;
        Side[] sides = {new Side(), new Side()};

        World copy() {
            World w = new World();
            w.tick = tick;
            w.sides[0] = sides[0].copy();
            w.sides[1] = sides[1].copy();
            return w;
        }

        boolean isEmpty() {
            return sides[0].waiting.isEmpty() && sides[1].waiting.isEmpty() && sides[0].held.isEmpty() && sides[1].held.isEmpty();
        }
    }

    ModelText.Description bridge = new ModelText("").parse();
    World world = start();
    final List<World> history = new ArrayList<>();
    final World[] slots = new World[2];
    StringBuilder input = new StringBuilder();
    int errorPosition = -1;

    private World start() {
        World w = new World();
        for (int side = 0; side < 2; side++) {
            w.sides[side].memory = bridge.words[side].clone();
            w.sides[side].tags = new Tag[bridge.tags];
            for (int i = 0; i < bridge.tags; i++) {
                w.sides[side].tags[i] = new Tag();
            }
        }
        return w;
    }

    int append(int[] five) {
        if (input.length() + 20 > 600) {
            return -1;
        }
        for (int four : five) {
            input.append((char) (four >>> 24)).append((char) (four >>> 16 & 255));
            input.append((char) (four >>> 8 & 255)).append((char) (four & 255));
        }
        return input.length();
    }

    int parse(int length) {
        if (length < 0 || length > input.length()) {
            throw new IllegalArgumentException();
        }
        ModelText text = new ModelText(input.substring(0, length));
        input = new StringBuilder();
        try {
            bridge = text.parse();
        } catch (ModelText.Wrong wrong) {
            errorPosition = wrong.position;
            return wrong.code;
        }
        errorPosition = -1;
        world = start();
        history.clear();
        slots[0] = null;
        slots[1] = null;
        return 0;
    }

    boolean blocked(Transaction later, Transaction earlier) {
        return !bridge.may[later.kind][earlier.kind] && !(later.relaxed && earlier.kind == 0);
    }

    int blockers(World w, int side, int position) {
        int set = 0;
        List<Transaction> list = w.sides[side].waiting;
        for (int i = 0; i < position; i++) {
            if (blocked(list.get(position), list.get(i))) {
                set += 1 << i;
            }
        }
        return set;
    }

    int next(World w, int side) {
        Side other = w.sides[1 - side];
        for (int i = 0; i < w.sides[side].waiting.size(); i++) {
            int kind = w.sides[side].waiting.get(i).kind;
            if (blockers(w, side, i) == 0 && other.count(other.held, kind) < bridge.credits[1 - side][kind]) {
                return i;
            }
        }
        return -1;
    }

    void tick(World w) {
        w.tick++;
        for (int side = 0; side < 2; side++) {
            work(w, side);
        }
        for (int side = 0; side < 2; side++) {
            forward(w, side);
        }
    }

    private void forward(World w, int side) {
        int position = next(w, side);
        if (position < 0) {
            return;
        }
        Side from = w.sides[side];
        Transaction t = from.waiting.remove(position);
        from.forwarded++;
        from.busyTicks++;
        from.passings += position;
        from.waited += w.tick - t.cameIn;
        t.acceptedIn = w.tick;
        int sum = bridge.latencies[1 - side].value(t.kind, t.address, t.words, w.tick);
        t.latency = sum < 0 ? 0 : sum > 50 ? 50 : sum;
        w.sides[1 - side].held.add(t);
    }

    private void work(World w, int side) {
        Side here = w.sides[side];
        List<Transaction> kept = new ArrayList<>();
        for (Transaction t : here.held) {
            boolean time = w.tick >= t.acceptedIn + t.latency + 1;
            if (!time || !workOn(w, side, t)) {
                kept.add(t);
            }
        }
        here.held = kept;
    }

    private boolean hasRoom(World w, int side, int kind) {
        Side here = w.sides[side];
        return here.count(here.waiting, kind) < bridge.sizes[side][kind];
    }

    private boolean workOn(World w, int side, Transaction t) {
        Side here = w.sides[side];
        if (t.kind == 0) {
            System.arraycopy(t.carried, 0, here.memory, t.address, t.words);
            return true;
        }
        if (t.kind == 3) {
            Tag tag = here.tags[t.tag];
            for (int i = 0; i < t.words; i++) {
                tag.words[t.firstIndex + i] = t.carried[i];
            }
            tag.completionsDue--;
            tag.state = tag.completionsDue == 0 ? 2 : 1;
            return true;
        }
        if (t.kind == 2) {
            if (!hasRoom(w, side, 3)) {
                return false;
            }
            here.memory[t.address] = t.carried[0];
            here.waiting.add(completion(w, t, t.address, 0, 0, here));
            return true;
        }
        while (t.answered < t.words && hasRoom(w, side, 3)) {
            int part = Math.min(bridge.split, t.words - t.answered);
            here.waiting.add(completion(w, t, t.address + t.answered, part, t.answered, here));
            t.answered += part;
        }
        return t.answered == t.words;
    }

    private Transaction completion(World w, Transaction request, int address, int words, int index, Side here) {
        Transaction c = new Transaction();
        c.kind = 3;
        c.tag = request.tag;
        c.relaxed = request.relaxed;
        c.address = address;
        c.words = words;
        c.firstIndex = index;
        c.cameIn = w.tick;
        c.carried = java.util.Arrays.copyOfRange(here.memory, address, address + words);
        return c;
    }

    /** By its definition: the situations after 0 to 560 ticks are compared as texts. */
    int ticksToRest() {
        World w = world.copy();
        List<String> after = new ArrayList<>();
        List<Boolean> empty = new ArrayList<>();
        for (int n = 0; n <= 560; n++) {
            after.add(w.sides[0].show() + w.sides[1].show());
            empty.add(w.isEmpty());
            tick(w);
        }
        int n = 560;
        while (n > 0 && after.get(n - 1).equals(after.get(560))) {
            n--;
        }
        for (int i = 0; i <= 500; i++) {
            if (empty.get(i) || i >= n) {
                return i;
            }
        }
        return -1;
    }

    boolean isStuck() {
        int rest = ticksToRest();
        World w = world.copy();
        for (int i = 0; i < rest; i++) {
            tick(w);
        }
        return rest >= 0 && !w.isEmpty();
    }

    int completeTick(int side, int tag) {
        World w = world.copy();
        if (w.sides[side].tags[tag].state == 0) {
            return -1;
        }
        for (int i = 0; i <= 500; i++) {
            if (w.sides[side].tags[tag].state == 2) {
                return w.tick;
            }
            tick(w);
        }
        return -1;
    }

    private void remember() {
        history.add(world.copy());
        if (history.size() > 10) {
            history.remove(0);
        }
    }

    int run(int ticks) {
        if (ticks < 1 || ticks > 300) {
            throw new IllegalArgumentException();
        }
        if (world.tick > 9999 - ticks) {
            throw new IllegalStateException();
        }
        remember();
        int before = world.sides[0].forwarded + world.sides[1].forwarded;
        for (int i = 0; i < ticks; i++) {
            tick(world);
        }
        return world.sides[0].forwarded + world.sides[1].forwarded - before;
    }

    /** Issues a transaction with some words from a value on; returns its tag. */
    int issue(int kind, int side, int address, int words, int value, boolean relaxed) {
        if (side != 0 && side != 1) {
            throw new IndexOutOfBoundsException();
        }
        if (address < 0 || address > 15 || words < 1 || words > 4 || address + words > 16) {
            throw new IllegalArgumentException();
        }
        if (!hasRoom(world, side, kind)) {
            throw new IllegalStateException();
        }
        int tag = -1;
        Tag[] tags = world.sides[side].tags;
        if (kind != 0) {
            tag = 0;
            while (tag < tags.length && tags[tag].state != 0) {
                tag++;
            }
            if (tag == tags.length) {
                throw new IllegalStateException();
            }
        }
        remember();
        Transaction t = new Transaction();
        t.kind = kind;
        t.tag = tag;
        t.relaxed = relaxed;
        t.address = address;
        t.words = words;
        t.cameIn = world.tick;
        if (kind != 1) {
            t.carried = new int[words];
            for (int i = 0; i < words; i++) {
                t.carried[i] = value + i;
            }
        }
        world.sides[side].waiting.add(t);
        if (kind != 0) {
            tags[tag].state = 1;
            tags[tag].completionsDue = kind == 2 ? 1 : (words + bridge.split - 1) / bridge.split;
        }
        return tag;
    }

    int release(int side, int tag) {
        checkTag(side, tag);
        if (world.sides[side].tags[tag].state != 2) {
            throw new IllegalStateException();
        }
        remember();
        int words = world.sides[side].tags[tag].count();
        world.sides[side].tags[tag] = new Tag();
        return words;
    }

    int data(int side, int tag, int index) {
        checkTag(side, tag);
        Integer[] words = world.sides[side].tags[tag].words;
        if (index < 0 || index > 3 || words[index] == null) {
            throw new IllegalStateException();
        }
        return words[index];
    }

    void checkTag(int side, int tag) {
        if (side < 0 || side > 1 || tag < 0 || tag >= bridge.tags) {
            throw new IndexOutOfBoundsException();
        }
    }

    int undo() {
        if (history.isEmpty()) {
            return -1;
        }
        world = history.remove(history.size() - 1);
        return history.size();
    }

    boolean save(int slot) {
        if (slot != 0 && slot != 1) {
            throw new IndexOutOfBoundsException();
        }
        boolean before = slots[slot] != null;
        slots[slot] = world.copy();
        return before;
    }

    int restore(int slot) {
        if (slot != 0 && slot != 1) {
            throw new IndexOutOfBoundsException();
        }
        if (slots[slot] == null) {
            throw new IllegalStateException();
        }
        world = slots[slot].copy();
        history.clear();
        return world.tick;
    }

    boolean isSafe() {
        boolean safe = true;
        for (int kind = 0; kind <= 3; kind += 3) {
            safe &= bridge.may[kind][1] && bridge.may[kind][2];
            safe &= bridge.credits[0][kind] > 0 && bridge.credits[1][kind] > 0;
        }
        return safe;
    }

    float averageWait(int side) {
        Side s = world.sides[side];
        return s.forwarded == 0 ? 0.0f : (float) s.waited / (float) s.forwarded;
    }

    int ratioBits() {
        return averageWait(1) == 0.0f ? 0 : Float.floatToIntBits(averageWait(0) / averageWait(1));
    }
}
