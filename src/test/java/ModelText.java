import java.util.regex.Matcher;
import java.util.regex.Pattern;

/** The bridge text once more, by regular expressions and recursive descent into a tree. */
final class ModelText {
    @SuppressWarnings("serial")
    static final class Wrong extends RuntimeException {
        final int code;
        final int position;

        Wrong(int code, int position) {
            this.code = code;
            this.position = position;
        }
    }

    interface Expression {
        int value(int kind, int address, int words, int tick);
    }

    static final class Description {
        final int[][] sizes = {{4, 4, 4, 4}, {4, 4, 4, 4}};
        final int[][] credits = {{2, 2, 2, 2}, {2, 2, 2, 2}};
        final boolean[][] may = {
            {false, true, true, true}, {false, true, true, false}, {false, true, true, false}, {false, true, true, true}};
        final int[][] words = new int[2][16];
        final Expression[] latencies = {(k, a, w, t) -> 1, (k, a, w, t) -> 1};
        int split = 2;
        int tags = 4;
    }

    private static final Pattern TOKEN = Pattern.compile("[ \\n]*([a-z]+|[0-9]+|[^ \\n]|\\z)", Pattern.DOTALL);

    private final String text;
    private int position;
    private String token;
    private int end;
    private boolean splitSeen;
    private boolean tagsSeen;
    private int open;

    ModelText(String text) {
        this.text = text;
    }

    Description parse() {
        Description d = new Description();
        move();
        while (!token.isEmpty()) {
            statement(d);
            if (!token.equals(";")) {
                throw new Wrong(1, position);
            }
            move();
        }
        return d;
    }

    private void move() {
        Matcher matcher = TOKEN.matcher(text);
        if (!matcher.find(end) || matcher.start() != end) {
            throw new AssertionError("no token at " + end);
        }
        token = matcher.group(1);
        position = matcher.start(1);
        end = matcher.end(1);
    }

    private void statement(Description d) {
        String word = token;
        int place = position;
        switch (word) {
            case "buffer": case "credit": case "table": case "word":
                move();
                four(d, word);
                return;
            case "latency":
                move();
                int side = number(0, 1);
                open = 0;
                d.latencies[side] = sum();
                return;
            case "split":
                if (splitSeen) {
                    throw new Wrong(2, place);
                }
                splitSeen = true;
                move();
                d.split = number(1, 4);
                return;
            case "tags":
                if (tagsSeen) {
                    throw new Wrong(2, place);
                }
                tagsSeen = true;
                move();
                d.tags = number(1, 8);
                return;
            default:
                throw new Wrong(1, place);
        }
    }

    private void four(Description d, String word) {
        int first = number(0, word.equals("table") ? 3 : 1);
        int second = number(0, word.equals("word") ? 15 : 3);
        switch (word) {
            case "buffer":
                d.sizes[first][second] = number(1, 8);
                break;
            case "credit":
                d.credits[first][second] = number(0, 8);
                break;
            case "table":
                d.may[first][second] = number(0, 1) == 1;
                break;
            default:
                d.words[first][second] = number(0, 9999);
        }
    }

    private int number(int low, int high) {
        if (!token.matches("[0-9]{1,4}")) {
            throw new Wrong(1, position);
        }
        int value = Integer.parseInt(token);
        if (value < low || value > high) {
            throw new Wrong(3, position);
        }
        move();
        return value;
    }

    private Expression sum() {
        Expression left = term();
        while (token.equals("+") || token.equals("-")) {
            boolean plus = token.equals("+");
            move();
            Expression a = left;
            Expression b = term();
            left = (k, ad, w, t) -> plus ? a.value(k, ad, w, t) + b.value(k, ad, w, t) : a.value(k, ad, w, t) - b.value(k, ad, w, t);
        }
        return left;
    }

    private Expression term() {
        Expression left = factor();
        while (token.equals("*") || token.equals("/") || token.equals("%")) {
            char sign = token.charAt(0);
            move();
            Expression a = left;
            Expression b = factor();
            left = (k, ad, w, t) -> {
                int x = a.value(k, ad, w, t);
                int y = b.value(k, ad, w, t);
                return sign == '*' ? x * y : y == 0 ? 0 : sign == '/' ? x / y : x % y;
            };
        }
        return left;
    }

    private Expression factor() {
        if (token.matches("[0-9]{1,4}")) {
            int value = number(0, 9999);
            return (k, a, w, t) -> value;
        }
        if (token.equals("(")) {
            if (open == 5) {
                throw new Wrong(4, position);
            }
            open++;
            move();
            Expression inner = sum();
            if (!token.equals(")")) {
                throw new Wrong(1, position);
            }
            open--;
            move();
            return inner;
        }
        Expression named = named(token);
        if (named == null) {
            throw new Wrong(1, position);
        }
        move();
        return named;
    }

    private static Expression named(String name) {
        switch (name) {
            case "kind":
                return (k, a, w, t) -> k;
            case "address":
                return (k, a, w, t) -> a;
            case "words":
                return (k, a, w, t) -> w;
            case "tick":
                return (k, a, w, t) -> t;
            default:
                return null;
        }
    }
}
