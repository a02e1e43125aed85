import java.util.Random;

/** All promises: random runs of calls, each answer compared with that of the model. */
public final class ModelTest {
    private static final Check CHECK = new Check("ModelTest");
    private static final int RUNS = 1500;
    private static final int CALLS = 120;

    private interface Answer {
        Object get();
    }

    private final Random random;
    private final int number;
    private final BusBridge program = new BusBridge();
    private final Model model = new Model();
    private final StringBuilder calls = new StringBuilder();

    private ModelTest(int number) {
        this.number = number;
        random = new Random(number * 7919L + 17);
    }

    public static void main(String[] args) {
        for (int i = 0; i < RUNS && CHECK.wrongCount() == 0; i++) {
            new ModelTest(i).play();
        }
        CHECK.end();
    }

    private void play() {
        parse(ModelTexts.right(random));
        for (int i = 0; i < CALLS && CHECK.wrongCount() == 0; i++) {
            step();
            if (i % 10 == 9) {
                lookAtAll();
            }
        }
        predictAll();
    }

    private void compare(String call, Answer got, Answer due) {
        calls.append(call).append('\n');
        String g = answer(got);
        String d = answer(due);
        CHECK.dueText("run " + number + ": " + call, g, d);
        if (!g.equals(d) && CHECK.wrongCount() == 1) {
            System.out.println("the calls were:\n" + calls);
        }
    }

    private static String answer(Answer answer) {
        try {
            return String.valueOf(answer.get());
        } catch (RuntimeException thrown) {
            return thrown.getClass().getName();
        }
    }

    /** Mostly below a bound, sometimes just outside it. */
    private int index(int bound) {
        int chance = random.nextInt(40);
        return chance == 0 ? -1 : chance == 1 ? bound : random.nextInt(bound);
    }

    private int value() {
        int chance = random.nextInt(10);
        return chance == 0 ? Integer.MAX_VALUE - random.nextInt(3) : chance == 1 ? random.nextInt() : random.nextInt(1000);
    }

    private void step() {
        int chance = random.nextInt(100);
        if (chance < 62) {
            issue();
        } else if (chance < 80) {
            int ticks = random.nextInt(30) == 0 ? random.nextInt(303) : 1 + random.nextInt(random.nextInt(10) == 0 ? 60 : 4);
            compare("run(" + ticks + ")", () -> program.run(ticks), () -> model.run(ticks));
        } else if (chance < 90) {
            int side = index(2);
            int tag = index(model.bridge.tags);
            compare("release(" + side + ", " + tag + ")", () -> program.release(side, tag), () -> model.release(side, tag));
        } else if (chance < 94) {
            for (int i = random.nextInt(random.nextInt(4) == 0 ? 13 : 2); i >= 0; i--) {
                compare("undo()", program::undo, model::undo);
            }
        } else if (chance < 97) {
            snapshot();
        } else if (chance < 99) {
            predict();
        } else {
            parse(random.nextInt(3) == 0 ? ModelTexts.right(random) : ModelTexts.spoilt(random));
        }
    }

    private void issue() {
        int side = index(2);
        int address = index(16);
        int words = random.nextInt(30) == 0 ? random.nextInt(7) - 1 : 1 + random.nextInt(Math.max(1, Math.min(4, 16 - address)));
        int value = value();
        boolean relaxed = random.nextInt(3) == 0;
        String arguments = "(" + side + ", " + address + ", " + words + ", " + value + ", " + relaxed + ")";
        switch (random.nextInt(3)) {
            case 0:
                compare("post" + arguments, () -> program.post(side, address, words, value, relaxed), () -> {
                    model.issue(0, side, address, words, value, relaxed);
                    return model.world.sides[side].waiting.size();
                });
                break;
            case 1:
                compare("read" + arguments, () -> program.read(side, address, words, relaxed),
                        () -> model.issue(1, side, address, words, 0, relaxed));
                break;
            default:
                compare("configure" + arguments, () -> program.configure(side, address, value, relaxed),
                        () -> model.issue(2, side, address, 1, value, relaxed));
        }
    }

    private void snapshot() {
        int slot = index(2);
        if (random.nextBoolean()) {
            compare("saveSnapshot(" + slot + ")", () -> program.saveSnapshot(slot), () -> model.save(slot));
        } else {
            compare("restoreSnapshot(" + slot + ")", () -> program.restoreSnapshot(slot), () -> model.restore(slot));
        }
    }

    private void parse(String text) {
        for (int i = 0; i < text.length(); i += 20) {
            int[] five = new int[5];
            for (int k = 0; k < 20; k++) {
                int sign = i + k < text.length() ? text.charAt(i + k) & 255 : 32;
                five[k / 4] = five[k / 4] << 8 | sign;
            }
            compare("append", () -> program.append(five[0], five[1], five[2], five[3], five[4]), () -> model.append(five));
        }
        int length = random.nextInt(20) == 0 ? random.nextInt(640) - 20 : Math.min(600, text.length());
        compare("parse(" + length + ") of " + text, () -> program.parse(length), () -> model.parse(length));
        compare("errorPosition()", program::errorPosition, () -> model.errorPosition);
    }

    private void predict() {
        compare("ticksToRest()", program::ticksToRest, model::ticksToRest);
        compare("isStuck()", program::isStuck, model::isStuck);
    }

    private void predictAll() {
        predict();
        for (int side = 0; side < 2; side++) {
            for (int tag = 0; tag < model.bridge.tags; tag++) {
                int s = side;
                int t = tag;
                compare("completeTick(" + s + ", " + t + ")", () -> program.completeTick(s, t), () -> model.completeTick(s, t));
            }
        }
        lookAtAll();
    }

    private void lookAtAll() {
        compare("tick()", program::tick, () -> model.world.tick);
        compare("errorPosition()", program::errorPosition, () -> model.errorPosition);
        compare("isSafe()", program::isSafe, model::isSafe);
        compare("ratioBits()", program::ratioBits, model::ratioBits);
        for (int side = 0; side < 2; side++) {
            lookAtWaiting(side, model.world.sides[side]);
            lookAtTags(side, model.world.sides[side]);
            lookAtFigures(side, model.world.sides[side]);
        }
    }

    private void lookAtWaiting(int s, Model.Side side) {
        compare("waiting(" + s + ")", () -> program.waiting(s), () -> side.waiting.size());
        compare("next(" + s + ")", () -> program.next(s), () -> model.next(model.world, s));
        for (int i = 0; i < side.waiting.size(); i++) {
            int p = i;
            compare("kindAt(" + s + ", " + p + ")", () -> program.kindAt(s, p), () -> side.waiting.get(p).kind);
            compare("tagAt(" + s + ", " + p + ")", () -> program.tagAt(s, p), () -> side.waiting.get(p).tag);
            compare("blockers(" + s + ", " + p + ")", () -> program.blockers(s, p), () -> model.blockers(model.world, s, p));
        }
        for (int i = 0; i < 4; i++) {
            int kind = i;
            compare("held(" + s + ", " + kind + ")", () -> program.held(s, kind), () -> side.count(side.held, kind));
        }
        for (int i = 0; i < 16; i++) {
            int address = i;
            compare("word(" + s + ", " + address + ")", () -> program.word(s, address), () -> side.memory[address]);
        }
    }

    private void lookAtTags(int s, Model.Side side) {
        for (int i = 0; i < side.tags.length; i++) {
            int t = i;
            compare("tagState(" + s + ", " + t + ")", () -> program.tagState(s, t), () -> side.tags[t].state);
            compare("stored(" + s + ", " + t + ")", () -> program.stored(s, t), () -> side.tags[t].count());
            for (int k = -1; k < 5; k++) {
                int index = k;
                compare("data(" + s + ", " + t + ", " + index + ")", () -> program.data(s, t, index), () -> model.data(s, t, index));
            }
        }
    }

    private void lookAtFigures(int s, Model.Side side) {
        compare("forwarded(" + s + ")", () -> program.forwarded(s), () -> side.forwarded);
        compare("passings(" + s + ")", () -> program.passings(s), () -> side.passings);
        int tick = model.world.tick;
        compare("utilisation(" + s + ")", () -> program.utilisation(s),
                () -> tick == 0 ? 0.0 : (double) side.busyTicks / (double) tick);
        compare("averageWait(" + s + ")", () -> program.averageWait(s), () -> model.averageWait(s));
    }
}
