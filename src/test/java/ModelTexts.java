import java.util.Random;

/** Random bridge texts for the comparison with the model. */
final class ModelTexts {
    private ModelTexts() {
    }

    /** A right text that makes the bridge narrow rather often. */
    static String right(Random random) {
        StringBuilder text = new StringBuilder();
        boolean narrow = random.nextBoolean();
        int many = random.nextInt(14);
        for (int i = 0; i < many; i++) {
            String statement = statement(random, narrow);
            if (text.length() + statement.length() < 560) {
                text.append(statement);
            }
        }
        if (random.nextInt(3) > 0) {
            text.append("split").append(space(random)).append(1 + random.nextInt(4)).append(';');
        }
        if (random.nextInt(3) > 0) {
            text.append("tags").append(space(random)).append(1 + random.nextInt(8)).append(';');
        }
        return text.toString();
    }

    private static String statement(Random random, boolean narrow) {
        String gap = space(random);
        int side = random.nextInt(2);
        int kind = random.nextInt(4);
        switch (random.nextInt(5)) {
            case 0:
                return "buffer" + gap + side + " " + kind + gap + " " + (1 + random.nextInt(narrow ? 2 : 8)) + ";";
            case 1:
                return "credit" + gap + side + " " + kind + " " + random.nextInt(narrow ? 3 : 9) + gap + ";";
            case 2:
                return "table" + gap + kind + "\n" + random.nextInt(4) + " " + random.nextInt(2) + ";" + gap;
            case 3:
                return "word" + gap + side + " " + random.nextInt(16) + " " + random.nextInt(10000) + ";";
            default:
                return "latency" + gap + side + " " + sum(random, 0) + ";" + gap;
        }
    }

    private static String space(Random random) {
        String[] spaces = {"", " ", "\n", "  "};
        return spaces[random.nextInt(spaces.length)];
    }

    private static String sum(Random random, int depth) {
        StringBuilder text = new StringBuilder(factor(random, depth));
        while (random.nextInt(5) < 2) {
            text.append("+-*/%".charAt(random.nextInt(5))).append(factor(random, depth));
        }
        return text.toString();
    }

    private static String factor(Random random, int depth) {
        switch (random.nextInt(8)) {
            case 0:
                return "kind";
            case 1:
                return "address";
            case 2:
                return "words";
            case 3:
                return "tick";
            case 4:
                return "(" + (depth < 4 ? sum(random, depth + 1) : "7") + ")";
            case 5:
                return String.valueOf(random.nextInt(10000));
            default:
                return String.valueOf(random.nextInt(12));
        }
    }

    /** A text with a few faults, or a heap of tokens. */
    static String spoilt(Random random) {
        if (random.nextInt(4) == 0) {
            return heap(random);
        }
        StringBuilder text = new StringBuilder(right(random) + right(random));
        text.setLength(Math.min(text.length(), 590));
        for (int i = random.nextInt(3); i >= 0 && text.length() > 0; i--) {
            int at = random.nextInt(text.length());
            switch (random.nextInt(3)) {
                case 0:
                    text.deleteCharAt(at);
                    break;
                case 1:
                    text.setCharAt(at, sign(random));
                    break;
                default:
                    text.insert(at, sign(random));
            }
        }
        return text.toString();
    }

    private static char sign(Random random) {
        String signs = "0123456789;()+-*/% \nabkx";
        return random.nextInt(10) == 0 ? (char) random.nextInt(256) : signs.charAt(random.nextInt(signs.length()));
    }

    private static String heap(Random random) {
        String[] tokens = {"buffer", "credit", "table", "word", "latency", "split", "tags", "kind", "address", "words",
            "tick", "0", "1", "2", "3", "9", "16", "9999", "00000", "(", ")", "+", "-", "*", "/", "%", ";", "(((", "latency 0 (((("};
        StringBuilder text = new StringBuilder();
        for (int i = random.nextInt(12); i >= 0; i--) {
            text.append(tokens[random.nextInt(tokens.length)]).append(' ');
        }
        return text.toString();
    }
}
