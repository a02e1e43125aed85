/** The boundary cases of the bridge text and of its parse errors. */
final class TextEdges {
    private static final int LETTERS_OF_LATENCY = 7;
    private static final String[] STATEMENTS = {
        "buffer 1 3 8", "credit 1 3 8", "table 3 3 1", "word 1 15 9999", "latency 1 2", "split 4", "tags 8",
    };

    private final Edges e;

    private TextEdges(Edges e) {
        this.e = e;
    }

    static void all(Edges e) {
        TextEdges t = new TextEdges(e);
        t.longestText();
        t.spaces();
        t.tokens();
        t.longerRuns();
        t.otherBytes();
        t.bridge();
        t.statements();
        t.sums();
        t.terms();
        t.factors();
        t.onlyNumbers();
        t.ranges();
        t.rangesOfNumbersInSums();
        t.codeOne();
        t.codeTwo();
        t.codeThree();
        t.codeFour();
        t.smallestPosition();
        t.smallestCode();
        t.positions();
    }

    private static String spaces(int many) {
        return " ".repeat(many);
    }

    private void longestText() {
        e.says(0, "A bridge is described by a text of at most 600 bytes.");
        BusBridge x = new BusBridge();
        e.due("parse of 600 bytes", Check.parse(x, spaces(593) + "tags 8;"), 0);
        e.due("tagState(0, 7)", x.tagState(0, 7), 0);
        e.wrong(spaces(593) + "tags 8 ", 1, 600);
        e.wrong(spaces(599) + "x", 1, 599);
        e.wrong(spaces(593) + "tags 9;", 3, 598);
        String full = "split 1;".repeat(1) + "word 0 0 1;".repeat(53) + spaces(9);
        e.due("bytes of a text of many statements", full.length(), 600);
        e.right(full);
        e.right("latency 1 " + "1+".repeat(294) + "1;");
        e.wrong("latency 1 " + "1+".repeat(295), 1, 600);
        e.wrong(";".repeat(600), 1, 0);
        e.wrong("(".repeat(600), 1, 0);
        e.wrong("latency 0 " + "(".repeat(590), 4, 15);
        e.wrong("latency 0 1" + ")".repeat(589), 1, 11);
        e.wrong("a".repeat(600), 1, 0);
        e.wrong("tags " + "1".repeat(595), 1, 5);
        e.wrong("tags " + "0".repeat(594) + "1", 1, 5);
    }

    private void spaces() {
        e.says(0, "Spaces (byte 32) and line feeds (byte 10) separate tokens and are otherwise ignored.");
        String[] gaps = {" ", "\n", "  ", "\n\n", " \n ", "\n \n"};
        for (String gap : gaps) {
            e.right(gap);
            e.right(gap + "tags" + gap + "1" + gap + ";" + gap + "split" + gap + "1" + gap + ";" + gap);
            e.right("latency" + gap + "0" + gap + "(" + gap + "1" + gap + "+" + gap + "kind" + gap + ")" + gap + "*" + gap + "2;");
            e.wrong("ta" + gap + "gs 1;", 1, 0);
            e.wrong("tags 1" + gap + "2;", 1, 6 + gap.length());
            e.wrong("latency 0 ki" + gap + "nd;", 1, 10);
            e.wrong("latency 0 1" + gap + "2;", 1, 11 + gap.length());
            e.wrong(gap + "oops", 1, gap.length());
        }
        e.right("tags1;split1;latency0(1)+kind*address;word 0 0 0;");
        int[] noSpaces = {0, 9, 11, 12, 13, 31, 33, 127, 133, 160, 255};
        for (int sign : noSpaces) {
            e.wrong("tags" + (char) sign + "1;", 1, 4);
            e.wrong((char) sign + "", 1, 0);
            e.wrong("tags 1;" + (char) sign, 1, 7);
        }
    }

    private void tokens() {
        e.says(0, "A token is a word (a maximal run of letters a to z, 1 to 8 letters), a number (a maximal run of digits, "
                + "1 to 4 digits) or one of the characters ; ( ) + - * / % .");
        // Words end before what is no letter, numbers before what is no digit; neither needs a space.
        e.right("tags8;");
        e.right("buffer0 0 1;credit0 0 0;table0 0 0;word0 0 0;latency0 0;split1;tags1;");
        e.right("latency 0 kind+address-words*tick/kind%address;");
        e.wrong("tagstags 1;", 1, 0);
        e.wrong("tagssplit 1;", 1, 0);
        e.wrong("latency 0 kindkind;", 1, 10);
        e.wrong("latency 0 ticktic;", 1, 10);
        e.wrong("latency 0 kind1;", 1, 14);
        e.wrong("latency 0 1kind;", 1, 11);
        e.wrong("1tags 1;", 1, 0);
        e.wrong("tags 1split 1;", 1, 6);
        e.wrong("a", 1, 0);
        e.wrong("z 1;", 1, 0);
        e.wrong("wordword 0 0 0;", 1, 0);
        // 1 to 4 digits are one number: 10 is not 1 and 0.
        e.right("tags 8;");
        e.right("tags 08;");
        e.right("tags 008;");
        e.right("tags 0008;");
        e.wrong("tags 10;", 3, 5);
        e.wrong("tags 18;", 3, 5);
        e.wrong("buffer 0011;", 3, 7);
        e.wrong("word 0 151;", 3, 7);
        e.right("word 0 15 1;");
        BusBridge x = Check.bridge("word 0 0 1234; word 0 1 0056; word 1 15 9999; word 1 14 0;");
        e.due("word(0, 0)", x.word(0, 0), 1234);
        e.due("word(0, 1)", x.word(0, 1), 56);
        e.due("word(1, 15)", x.word(1, 15), 9999);
        e.due("word(1, 14)", x.word(1, 14), 0);
    }

    private void longerRuns() {
        e.says(0, "A longer run, and any other byte, is an invalid token.");
        e.wrong("word 0 0 00001;", 1, 9);
        e.wrong("word 0 0 10000;", 1, 9);
        e.wrong("word 0 0 99999;", 1, 9);
        e.wrong("tags 00004;", 1, 5);
        e.wrong("latency 00000 1;", 1, 8);
        e.wrong("latency 0 00000;", 1, 10);
        // Numbers that an int would take for 1 and for 4.
        e.wrong("tags 4294967297;", 1, 5);
        e.wrong("tags 4294967300;", 1, 5);
        e.wrong("tags 18446744073709551617;", 1, 5);
        e.wrong("bufferxxx 0 0 1;", 1, 0);
        e.wrong("latencyyy 0 1;", 1, 0);
        e.wrong("latency 0 addressss;", 1, 10);
        e.wrong("latency 0 kindskind;", 1, 10);
        e.wrong("tags 1; abcdefghijklmnopqrstuvwxyz", 1, 8);
    }

    /** Every byte between two statements, within a statement, within a word and within a number. */
    private void otherBytes() {
        for (int sign = 0; sign < 256; sign++) {
            String s = String.valueOf((char) sign);
            boolean space = sign == 32 || sign == 10;
            boolean digit = sign >= '0' && sign <= '9';
            boolean letter = sign >= 'a' && sign <= 'z';
            if (space) {
                e.right("tags 1;" + s + "split 1;");
                e.right("tags" + s + "1;");
                e.wrong("ta" + s + "gs 1;", 1, 0);
                e.wrong("word 0 0 1" + s + "1;", 1, 11);
            } else {
                e.wrong("tags 1;" + s + "split 1;", 1, 7);
                e.wrong("ta" + s + "gs 1;", 1, 0);
                if (sign == '0') {
                    e.right("tags" + s + "1;");
                } else {
                    e.wrong("tags" + s + "1;", digit ? 3 : 1, letter ? 0 : 4);
                }
                if (digit) {
                    e.right("word 0 0 1" + s + "1;");
                } else {
                    e.wrong("word 0 0 1" + s + "1;", 1, sign == ';' ? 11 : 10);
                }
            }
        }
    }

    private void bridge() {
        e.says(0, "bridge = { statement \";\" }");
        e.right("");
        e.right("tags 1;");
        e.right("tags 1;split 1;");
        for (String statement : STATEMENTS) {
            e.right(statement + ";");
            e.wrong(statement, 1, statement.length());
            e.wrong(statement + ";;", 1, statement.length() + 1);
            e.wrong(statement + " " + statement + ";", 1, statement.length() + 1);
            e.wrong(";" + statement + ";", 1, 0);
        }
        e.wrong(";", 1, 0);
    }

    private void statements() {
        e.says(0, "statement = \"buffer\" side kind size | \"credit\" side kind many | \"table\" kind kind may | "
                + "\"word\" side address value | \"latency\" side sum | \"split\" words | \"tags\" many");
        String[] strange = {"buffer", "kind", "x", ";", "(", ")", "+", "-", "*", "/", "%", "!", "00000"};
        for (String statement : STATEMENTS) {
            String[] tokens = statement.split(" ");
            for (int i = 0; i < tokens.length; i++) {
                String before = join(tokens, 0, i);
                if (i > 0) {
                    e.wrong(before, 1, before.length());
                    e.wrong(before + ";", 1, before.length());
                }
                for (String token : strange) {
                    boolean isRight = i == 0 && token.equals("buffer") || tokens[0].equals("latency") && i == 2
                            && (token.equals("kind") || token.equals("("));
                    if (!isRight) {
                        e.wrong(before + token + join(tokens, i + 1, tokens.length), 1, before.length());
                    }
                }
            }
            e.wrong(statement + " 1;", 1, statement.length() + 1);
            e.wrong(statement + " kind;", 1, statement.length() + 1);
            e.wrong("1 " + statement + ";", 1, 0);
        }
        String[] noStatements = {"side", "kind", "size", "address", "value", "words", "tick", "sum", "buffers", "buffe", "uffer", "tag", "spli"};
        for (String word : noStatements) {
            e.wrong(word + " 0 0 1;", 1, 0);
        }
        for (String statement : STATEMENTS) {
            String word = statement.substring(0, statement.indexOf(' '));
            for (int i = 0; i < word.length(); i++) {
                e.wrong(word.substring(0, i) + "x" + statement.substring(i + 1) + ";", 1, 0);
                e.wrong(word.substring(0, i) + statement.substring(i + 1) + ";", 1, 0);
                e.wrong(word.substring(0, i) + "x" + statement.substring(i) + ";", 1, 0);
            }
        }
    }

    private static String join(String[] tokens, int from, int to) {
        StringBuilder text = new StringBuilder();
        for (int i = from; i < to; i++) {
            text.append(i == from && from > 0 ? " " : "").append(tokens[i]).append(i < to - 1 || from == 0 ? " " : "");
        }
        return text.toString();
    }

    private void sums() {
        e.says(0, "sum = term { ( \"+\" | \"-\" ) term }");
        sum("1", -1);
        sum("1+1", -1);
        sum("1-1+1-1", -1);
        sum("", 0);
        sum("+", 0);
        sum("-", 0);
        sum("+1", 0);
        sum("-1", 0);
        sum("1+", 2);
        sum("1-", 2);
        sum("1++1", 2);
        sum("1+-1", 2);
        sum("1--1", 2);
    }

    private void terms() {
        e.says(0, "term = factor { ( \"*\" | \"/\" | \"%\" ) factor }");
        sum("1*1/1%1", -1);
        sum("1*1+1%1-1/1", -1);
        sum("*1", 0);
        sum("/1", 0);
        sum("%1", 0);
        sum("1*", 2);
        sum("1/", 2);
        sum("1%", 2);
        sum("1**1", 2);
        sum("1*-1", 2);
        sum("1+/1", 2);
        sum("1%%1", 2);
    }

    private void factors() {
        e.says(0, "factor = number | \"kind\" | \"address\" | \"words\" | \"tick\" | \"(\" sum \")\"");
        sum("0", -1);
        sum("kind", -1);
        sum("address", -1);
        sum("words", -1);
        sum("tick", -1);
        sum("(1)", -1);
        sum("(1+2*(3-kind))", -1);
        sum("()", 1);
        sum("(", 1);
        sum(")", 0);
        sum("1)", 1);
        sum("(1", 2);
        sum("(1))", 3);
        sum("((1)", 4);
        sum("(1)(1)", 3);
        sum("1(1)", 1);
        sum("(1)1", 3);
        sum("1 1", 2);
        sum("kind kind", 5);
        sum("(1 1)", 3);
        sum("word", 0);
        sum("kinds", 0);
        sum("ticks", 0);
        sum("side", 0);
        sum("buffer", 0);
        sum("tags", 0);
        sum("split", 0);
        sum("latency", 0);
        String[] names = {"kind", "address", "words", "tick"};
        for (String name : names) {
            for (int i = 0; i < name.length(); i++) {
                sum(name.substring(0, i) + "x" + name.substring(i + 1), 0);
                sum(name.substring(0, i) + name.substring(i + 1), 0);
                sum(name.substring(0, i) + "x" + name.substring(i), 0);
            }
        }
    }

    /** A sum in a statement, which is right or has an error of the code 1 at a place within the sum. */
    private void sum(String sum, int place) {
        String text = "latency 1 " + sum + ";";
        if (place < 0) {
            e.right(text);
        } else {
            e.wrong(text, 1, LETTERS_OF_LATENCY + 3 + place);
        }
    }

    private void onlyNumbers() {
        e.says(0, "All items without quotes, except those that are explained by the grammar, are numbers:");
        e.wrong("tags kind;", 1, 5);
        e.wrong("split words;", 1, 6);
        e.wrong("word 0 address 0;", 1, 7);
        e.wrong("tags (1);", 1, 5);
        e.wrong("tags 1+1;", 1, 6);
        e.wrong("latency (0) 1;", 1, 8);
        e.wrong("latency kind 1;", 1, 8);
        e.wrong("buffer -1 0 1;", 1, 7);
        e.wrong("tags -1;", 1, 5);
        e.wrong("tags +1;", 1, 5);
    }

    private void ranges() {
        e.says(0, "side 0 or 1;");
        range("buffer ", " 0 1;", 0, 1);
        range("credit ", " 0 1;", 0, 1);
        range("word ", " 0 1;", 0, 1);
        range("latency ", " 1;", 0, 1);
        e.says(0, "kind 0 to 3 (0 posted write, 1 read, 2 configuration write, 3 completion);");
        range("buffer 0 ", " 1;", 0, 3);
        range("buffer 1 ", " 1;", 0, 3);
        range("credit 0 ", " 1;", 0, 3);
        range("credit 1 ", " 1;", 0, 3);
        range("table ", " 0 1;", 0, 3);
        range("table 3 ", " 1;", 0, 3);
        e.says(0, "size 1 to 8;");
        range("buffer 0 0 ", ";", 1, 8);
        range("buffer 1 3 ", ";", 1, 8);
        e.says(0, "many of credit 0 to 8;");
        range("credit 0 0 ", ";", 0, 8);
        range("credit 1 3 ", ";", 0, 8);
        e.says(0, "may 0 or 1;");
        range("table 0 0 ", ";", 0, 1);
        range("table 3 3 ", ";", 0, 1);
        e.says(0, "address 0 to 15;");
        range("word 0 ", " 0;", 0, 15);
        range("word 1 ", " 9999;", 0, 15);
        e.says(0, "value 0 to 9999;");
        range("word 0 0 ", ";", 0, 9999);
        e.says(0, "words 1 to 4;");
        range("split ", ";", 1, 4);
        e.says(0, "many of tags 1 to 8.");
        range("tags ", ";", 1, 8);
    }

    /** Every number of four digits at a place is right within the range and has the code 3 outside; a fifth digit is no number. */
    private void range(String before, String after, int lowest, int highest) {
        int[] numbers = {0, 1, lowest, lowest - 1, highest - 1, highest, highest + 1, highest * 10, 10, 16, 100, 256, 1000, 4096, 9998, 9999};
        for (int number : numbers) {
            if (number >= lowest && number <= highest) {
                e.right(before + number + after);
                e.right(before + String.format("%04d", number) + after);
            } else if (number >= 0 && number <= 9999) {
                e.wrong(before + number + after, 3, before.length());
                e.wrong(before + number, 3, before.length());
            }
        }
        e.wrong(before + "10000" + after, 1, before.length());
        e.wrong(before + "65536" + after, 1, before.length());
        e.wrong(before + "-1" + after, 1, before.length());
    }

    private void rangesOfNumbersInSums() {
        e.says(0, "A number in a sum is 0 to 9999.");
        range("latency 0 ", ";", 0, 9999);
        range("latency 1 1+2*(", ");", 0, 9999);
    }

    private void codeOne() {
        e.says(0, "Parse errors have these codes. 1: an invalid token, a token that the grammar does not allow at this place, "
                + "or a text that ends too early.");
        e.wrong("?", 1, 0);
        e.wrong("tags 1; ?", 1, 8);
        e.wrong("tags ?", 1, 5);
        e.wrong("tags 1 ?", 1, 7);
        e.wrong("latency 0 ?", 1, 10);
        e.wrong("latency 0 1 ?", 1, 12);
        e.wrong("tags ;", 1, 5);
        e.wrong("tags", 1, 4);
        e.wrong("tags 1", 1, 6);
    }

    private void codeTwo() {
        e.says(0, "2: the word of a second split or tags.");
        e.wrong("split 1;split 1;", 2, 8);
        e.wrong("tags 1;tags 1;", 2, 7);
        e.wrong("tags 1;split 1;tags 1;", 2, 15);
        e.wrong("split 1;tags 1;split 1;", 2, 15);
        e.wrong("split 4; tags 8; buffer 0 0 1; split", 2, 31);
        e.wrong("tags 1;tags", 2, 7);
        e.wrong("tags 1;tags 9;", 2, 7);
        e.wrong("tags 1;tags ?", 2, 7);
        e.says(0, "The statements split and tags can each occur once.");
        e.right("split 1;tags 1;");
        e.right("tags 1;split 1;");
        e.right("tags 1; buffer 0 0 1; split 1; buffer 0 0 1;");
        // What an earlier text said does not count, whether it was right or not.
        BusBridge x = new BusBridge();
        e.due("parse", Check.parse(x, "tags 1; split 1;"), 0);
        e.due("parse of the same text", Check.parse(x, "tags 1; split 1;"), 0);
        e.due("parse of a wrong text", Check.parse(x, "tags 1; split 1; split 1;"), 2);
        e.due("parse of the same text", Check.parse(x, "tags 1; split 1;"), 0);
    }

    private void codeThree() {
        e.says(0, "3: a number out of its range.");
        e.wrong("tags 0;", 3, 5);
        e.wrong("tags 9;", 3, 5);
        e.wrong("tags 9", 3, 5);
        e.wrong("tags 9 9", 3, 5);
        e.wrong("tags 9?", 3, 5);
    }

    private void codeFour() {
        e.says(0, "4: a \"(\" while five \"(\" are open.");
        e.right("latency 0 (((((1)))));");
        e.wrong("latency 0 ((((((1))))));", 4, 15);
        e.wrong("latency 0 ((((((", 4, 15);
        e.wrong("latency 0 ( ( ( ( ( (1))))));", 4, 20);
        // A closed one is not open; each sum begins with none.
        e.right("latency 0 (((((1)+(2))+((3)))));");
        e.right("latency 0 (((((1)))))+(((((2)))))*(((((3)))));");
        e.right("latency 0 (((((1)))));latency 1 (((((1)))));latency 0 (((((1)))));");
        e.wrong("latency 0 (((((1)+(2))+(((3))))));", 4, 25);
        e.wrong("latency 0 (((((1)))));latency 1 ((((((1))))));", 4, 37);
        e.wrong("latency 0 (((((1+(2))))));", 4, 17);
        e.wrong("latency 0 1*(((((2/(", 4, 19);
        // An error within a sum, even many times, leaves no bracket open for the next text.
        BusBridge x = new BusBridge();
        for (int i = 0; i < 20; i++) {
            e.due("parse", Check.parse(x, "latency 1 (((((1"), 1);
            e.due("parse", Check.parse(x, "latency 1 9-(8-(7-(6-(5-(4+(3"), 4);
        }
        e.due("parse", Check.parse(x, "latency 1 1+2*(1+2*(1+2*(1+2*(1+2*(1-1*1)))));"), 0);
        x.post(0, 0, 1, 1, false);
        e.due("the latency is 31", x.ticksToRest(), 1 + 31 + 1);
    }

    private void smallestPosition() {
        e.says(0, "The error with the smallest position is reported.");
        e.wrong("tags 9; oops; split 9;", 3, 5);
        e.wrong("oops; tags 9;", 1, 0);
        e.wrong("tags 1; tags 1; ?", 2, 8);
        e.wrong("latency 0 ((((((1; tags 9;", 4, 15);
        e.wrong("buffer 2 4 9;", 3, 7);
        e.wrong("buffer 1 4 9;", 3, 9);
        e.wrong("buffer 1 3 9;", 3, 11);
        e.wrong("tags 9 split", 3, 5);
        e.wrong("split 1; split 9 9", 2, 9);
    }

    private void smallestCode() {
        e.says(0, "If several codes apply at one position, the smallest is reported.");
        // 1 and 2: a second word where no statement may begin.
        e.wrong("tags 1 tags 2;", 1, 7);
        e.wrong("tags 1; latency 0 tags;", 1, 18);
        e.wrong("tags 1; split tags;", 1, 14);
        e.wrong("tags tags 1;", 1, 5);
        // 1 and 3: a number out of every range where none may stand.
        e.wrong("tags 1 9999;", 1, 7);
        e.wrong("9999", 1, 0);
        // 1 and 4: a bracket while five are open where no factor may begin.
        e.wrong("latency 0 (((((1(", 1, 16);
        e.wrong("latency 0 (((((1)+1(", 1, 19);
        e.wrong("latency 0 (((((kind(1))))));", 1, 19);
    }

    private void positions() {
        e.says(0, "The position of an error is the index of the first byte of its token; if the text ends too early, "
                + "it is the length of the text.");
        e.wrong("oops", 1, 0);
        e.wrong("  oops", 1, 2);
        e.wrong("\n\noops", 1, 2);
        e.wrong("tags    9999;", 3, 8);
        e.wrong("tags\n\n123456;", 1, 6);
        e.wrong("tags 1   ;  tags 1;", 2, 12);
        e.wrong("tags   ", 1, 7);
        e.wrong("tags 1\n\n\n", 1, 9);
        e.wrong("latency 0 (1   ", 1, 15);
        BusBridge x = new BusBridge();
        for (int length = 0; length <= 7; length++) {
            Check.append(x, "tags 1; tags 1;");
            int code = length == 0 || length == 7 ? 0 : 1;
            int position = code == 0 ? -1 : length < 4 ? 0 : length;
            e.due("parse of the first bytes: " + length, x.parse(length), code);
            e.due("errorPosition()", x.errorPosition(), position);
        }
        Check.append(x, "word 0 0 12345;");
        e.due("parse(13) sees four digits", x.parse(13), 1);
        e.due("errorPosition()", x.errorPosition(), 13);
        Check.append(x, "word 0 0 12345;");
        e.due("parse(14) sees five digits", x.parse(14), 1);
        e.due("errorPosition()", x.errorPosition(), 9);
    }
}
