/** Texts: what an ORDER is, and where the first wrong byte stands. */
final class TextEdges extends Edges {
    /** What stands before and behind a thing of one sort, wherever the document lets it stand. */
    private static final String[][] CELL_PLACES = {
        {"set ", " = 1"}, {"set c1 = ", ""}, {"set c1 = 1 + ", ""}, {"point ", " at 1"}, {"if ", " < 1 jump 1"},
        {"if 1 < ", " jump 1"}, {"through ", ""}, {"through ", " kind 1"}, {"by ", ""}, {"by ", " kind 1"},
        {"door ", ""}
    };
    private static final String[][] ATOM_PLACES = {
        {"set c1 = ", ""}, {"set c1 = ", " * c2"}, {"set c1 = c2 - ", ""}, {"if ", " > 1 jump 1"},
        {"if c1 = ", " jump 1"}, {"door ", ""}
    };
    private static final String[][] KIND_PLACES = {
        {"entry ", " stop"}, {"through c1 kind ", ""}, {"by c1 kind ", ""}
    };
    private static final String[][] PLACE_PLACES = {
        {"point c1 at ", ""}, {"jump ", ""}, {"if 1 < 2 jump ", ""}, {"call ", ""}
    };

    static void all() {
        orders();
        bodies();
        numbers();
        sums();
        atomsAndSigns();
        digits();
        wordsAndBlanks();
        emptyTexts();
        wrongBytes();
    }

    private static void orders() {
        sentence("ORDERS (at most 40, numbered from 0 on, part by part): a text: ORDER { ; ORDER }.");
        JumpFence parts = with("jump 5;jump 6", "jump 7", "", "jump 8;jump 9");
        for (int k = 0; k < 5; k++) {
            int order = k;
            due("order(" + k + ", 4)", () -> parts.order(order, 4), k + 5);
        }
        index("order(5, 4)", () -> parts.order(5, 4));
        index("order(-1, 4)", () -> parts.order(-1, 4));
        JumpFence x = with(many("jump 1", 39));
        put(x, "jump 2;jump 3");
        argument("load() of a 40th and a 41st", x::load);
        due("count(0)", () -> x.count(0), 39);
        put(x, "jump 2");
        due("load() of a 40th", x::load, 40);
        due("order(39, 4)", () -> x.order(39, 4), 2);
        put(x, "jump 3");
        argument("load() of a 41st", x::load);
        due("count(0)", () -> x.count(0), 40);
        index("order(40, 4)", () -> x.order(40, 4));
        rightText(many("stop", 40), 40);
        wrongText(many("stop", 41), 200);
        rightText("stop;stop", 2);
        wrongText("stop stop", 5);
        wrongText("stop,stop", 4);
        wrongText("stop;;stop", 5);
        wrongText(";stop", 0);
        wrongText(";", 0);
        wrongText("stop;", 5);

        sentence("ORDER: [ entry KIND ] BODY.");
        due("order(0, 1)", () -> with("entry 3 back").order(0, 1), 3);
        due("order(0, 1)", () -> with("back").order(0, 1), NONE);
        wrongText("entry 1", 7);
        wrongText("entry 1;stop", 7);
        wrongText("entry 1 entry 1 stop", 8);
        wrongText("entry stop", 6);
        wrongText("stop entry 1", 5);
        wrongText("1 stop", 0);
    }

    private static void bodies() {
        sentence("BODY: set CELL = SUM | point CELL at PLACE | jump PLACE | if ATOM SIGN ATOM jump PLACE | through CELL"
                + " [ kind KIND ] | call PLACE | by CELL [ kind KIND ] | back | door ATOM | stop.");
        String[] bodies = {
            "set c1 = 5 .", "set c1 = c2 . + 3 .", "set c1 = 4 . - c3 .", "set c1 = c4 . * c5 .", "point c1 at 2 .",
            "jump 3 .", "if c1 < 4 jump 5 .", "if 1 > c2 jump 5 .", "if 1 = 2 jump 5 .", "through c1 . kind 2 .",
            "call 4 .", "by c1 . kind 3 .", "back .", "door 7 .", "door c1 .", "stop ."
        };
        for (String body : bodies) {
            cutAnywhere("", body.split(" "));
            cutAnywhere("entry 2 ", body.split(" "));
            cutAnywhere("stop;", body.split(" "));
        }
        // each word where another one is due
        wrongText("set c1 at 5", 7);
        wrongText("point c1 = 5", 9);
        wrongText("if 1 < 2 call 3", 9);
        wrongText("if 1 < 2 3", 9);
        wrongText("jump c1", 5);
        wrongText("call c1", 5);
        wrongText("point c1 at c2", 12);
        wrongText("through 1", 8);
        wrongText("by 1", 3);
        wrongText("call 1 kind 1", 7);
        wrongText("back kind 1", 5);
        wrongText("through c1 entry 1", 11);
        wrongText("through c1 1", 11);
        wrongText("kind 1", 0);
        wrongText("at 1", 0);
        wrongText("c1", 0);
    }

    /** The things of a BODY one by one; behind a point it may end. */
    private static void cutAnywhere(String ahead, String[] things) {
        String text = ahead;
        int orders = ahead.equals("stop;") ? 2 : 1;
        for (String thing : things) {
            boolean mayEnd = thing.equals(".");
            if (mayEnd) {
                rightText(text, orders);
                rightText(text + ";stop", orders + 1);
            } else {
                wrongText(text + "?", text.length());
                text += thing + " ";
            }
            wrongText(text + "?", text.length());
            if (!mayEnd && !things[indexOf(things, thing) + 1].equals(".")) {
                wrongText(text, text.length());
                wrongText(text + ";stop", text.length());
            }
        }
    }

    private static int indexOf(String[] things, String thing) {
        for (int k = 0; k < things.length; k++) {
            if (things[k].equals(thing)) {
                return k;
            }
        }
        throw new IllegalStateException(thing);
    }

    private static void allRight(String[][] places, String... things) {
        for (String[] place : places) {
            for (String thing : things) {
                rightText(place[0] + thing + place[1], 1);
            }
        }
    }

    /** Wrong at the thing's begin, or so many bytes behind it. */
    private static void allWrong(String[][] places, int behind, String... things) {
        for (String[] place : places) {
            for (String thing : things) {
                wrongText(place[0] + thing + place[1], place[0].length() + behind);
            }
        }
    }

    private static void numbers() {
        sentence("CELL: c and a NUMBER 0 to 15.");
        allRight(CELL_PLACES, "c0", "c9", "c15", "c015");
        allWrong(CELL_PLACES, 1, "c16", "c17", "c20", "c99", "c115", "c999", "c1000", "c0000", "c-1", "c?", "cC", "c;");
        wrongText("set c = 1", 6);
        wrongText("set c", 5);
        wrongText("door c ;stop", 7);
        allWrong(CELL_PLACES, 0, "C1", "d1", "cc1", "ca1", "-c1", ";");
        due("cell(false, 15)", () -> with("set c15 = 7;stop").cell(false, 15), 7);
        due("cell(false, 0)", () -> with("set c0 = 7;stop").cell(false, 0), 7);

        sentence("KIND: a NUMBER 0 to 3 (0 without).");
        allRight(KIND_PLACES, "0", "1", "2", "3", "03", "003");
        allWrong(KIND_PLACES, 0, "4", "5", "9", "10", "33", "004", "999", "1000", "0003", "-1", "c1", "kind", ";", "?");
        JumpFence kinds = with("entry 0 through c1;entry 3 by c1 kind 3;through c1 kind 0;by c1");
        int[] due = {0, 3, 0, 0};
        for (int k = 0; k < due.length; k++) {
            int order = k;
            due("order(" + k + ", 3)", () -> kinds.order(order, 3), due[k]);
        }
        due("landings(3, false)", () -> kinds.landings(3, false), 1);

        sentence("PLACE: a NUMBER 0 to 39.");
        allRight(PLACE_PLACES, "0", "9", "10", "39", "039", "000");
        allWrong(PLACE_PLACES, 0, "40", "41", "99", "040", "139", "999", "1000", "0039", "0000", "-1", "c1", ";", "?");
        due("order(0, 4)", () -> with("jump 39").order(0, 4), 39);
        due("order(0, 4)", () -> with("point c1 at 0").order(0, 4), 0);
    }

    private static void sums() {
        sentence("SUM: ATOM [ OP ATOM ]; OP: + - *.");
        due("cell of one ATOM", () -> with("set c1 = 7;stop").cell(false, 1), 7);
        due("cell of 7 + 3", () -> with("set c1 = 7 + 3;stop").cell(false, 1), 10);
        due("cell of 7 - 3", () -> with("set c1 = 7 - 3;stop").cell(false, 1), 4);
        due("cell of 3 - 7", () -> with("set c1 = 3 - 7;stop").cell(false, 1), -4);
        due("cell of 7 * 3", () -> with("set c1 = 7 * 3;stop").cell(false, 1), 21);
        due("cell of a SUM of itself", () -> with("set c1 = 7;set c1 = c1 * c1;stop").cell(false, 1), 49);
        wrongText("set c1 = 1 + 2 + 3", 15);
        wrongText("set c1 = + 1", 9);
        wrongText("set c1 = 1 ++ 2", 12);
        wrongText("set c1 = 1 2", 11);
        wrongText("set c1 =", 8);
        wrongText("set c1 = 1 *", 12);
        for (int b = 0; b < 256; b++) {
            String text = "set c1 = 1" + (char) b + "2";
            boolean isOp = b == '+' || b == '-' || b == '*';
            if (isOp || b >= '0' && b <= '9') {
                rightText(text, 1);
            } else {
                wrongText(text, b == ' ' || b == ';' ? 11 : 10);
            }
        }
    }

    private static void atomsAndSigns() {
        sentence("ATOM: CELL or a NUMBER 0 to 999.");
        allRight(ATOM_PLACES, "0", "999", "000", "c0", "c15");
        allWrong(ATOM_PLACES, 0, "1000", "9999", "0000", "0999", "-1", "+1", "x", "at", ";", "?");
        allWrong(ATOM_PLACES, 1, "c16", "c999", "c?");
        due("said(false, 0)", () -> with("door 999").said(false, 0), 999);
        due("said(false, 0)", () -> with("door 0").said(false, 0), 0);

        sentence("SIGN: < > =.");
        for (int b = 0; b < 256; b++) {
            String text = "if 1" + (char) b + "2 jump 0";
            if (b == '<' || b == '>' || b == '=') {
                rightText(text, 1);
            } else {
                wrongText(text, b >= '0' && b <= '9' ? 7 : b == ' ' ? 5 : 4);
            }
        }
        wrongText("if 1 <= 2 jump 0", 6);
        wrongText("if 1 == 2 jump 0", 6);
        wrongText("if 1 <> 2 jump 0", 6);
        wrongText("if < 2 jump 0", 3);
        wrongText("set c1 < 2", 7);
    }

    private static void digits() {
        sentence("NUMBER: 1 to 3 digits.");
        due("said(false, 0)", () -> with("door 7").said(false, 0), 7);
        due("said(false, 0)", () -> with("door 07").said(false, 0), 7);
        due("said(false, 0)", () -> with("door 007").said(false, 0), 7);
        due("said(false, 0)", () -> with("door 100").said(false, 0), 100);
        due("said(false, 0)", () -> with("door 789").said(false, 0), 789);
        wrongText("door 0007", 5);
        wrongText("door 00000000000000000007", 5);
        wrongText("door 4294967303", 5);
        wrongText("door 18446744073709551617", 5);
        wrongText("jump 00001", 5);
        wrongText("entry 0001 stop", 6);
        wrongText("door " + "0".repeat(395), 5);
        wrongText("door c" + "1".repeat(394), 6);
        // just beside the digits
        wrongText("door /", 5);
        wrongText("door :", 5);
    }

    private static void wordsAndBlanks() {
        sentence("Words are as long as a to z go on;");
        for (String text : new String[] {"jump3", "call3", "door5", "if1<2jump3",
            "entry1stop", "point c1at2", "through c1kind2", "by c1kind2", "set c1=c2+c3"}) {
            rightText(text, 1);
        }
        for (String text : new String[] {"setc1=1", "pointc1at2", "throughc1", "byc1", "doorc1", "ifc1<2jump3",
            "backstop", "stops", "stopz", "astop", "zstop", "sto", "s", "jumpx3", "Stop", "sTop", "entrystop"}) {
            wrongText(text, 0);
        }
        wrongText("point c1atx2", 8);
        wrongText("through c1kinds2", 10);
        wrongText("if 1<2jumps3", 6);
        wrongText("door c1c2", 7);
        wrongText("jump 3stop", 6);
        wrongText("stop;stopa", 5);
        for (int b = 0; b < 256; b++) {
            // a letter makes another word, all else stands behind the word
            boolean letter = b >= 'a' && b <= 'z';
            if (b != ' ' && b != ';') {
                wrongText("stop" + (char) b, letter ? 0 : 4);
            }
        }

        sentence("between all there may be blanks (32), also ahead and behind.");
        rightText("  entry  1  set  c1  =  c2  +  3  ;  if  c1  <  2  jump  3  ;  through  c1  kind  2  ", 3);
        rightText("entry1set c1=c2+3;if c1<2jump3;through c1kind2", 3);
        rightText("   stop", 1);
        rightText("stop   ", 1);
        rightText("stop;" + " ".repeat(391) + "stop", 2);
        rightText(" ".repeat(396) + "stop", 1);
        rightText("stop" + " ".repeat(396), 1);
        // not within a word or a NUMBER
        wrongText("st op", 0);
        wrongText("jump 1 2", 7);
        wrongText("door 1 ;do or 2", 8);
        for (int b = 0; b < 256; b++) {
            if (b == ' ') {
                rightText((char) b + "stop", 1);
                rightText("jump" + (char) b + "1", 1);
            } else {
                wrongText((char) b + "stop", 0);
                boolean letter = b >= 'a' && b <= 'z';
                if (b < '0' || b > '3') {
                    wrongText("jump" + (char) b + "1", letter ? 0 : 4);
                }
            }
        }
    }

    private static void emptyTexts() {
        sentence("A text that is empty, or blanks alone, has no ORDER.");
        rightText("", 0);
        rightText(" ", 0);
        rightText(" ".repeat(400), 0);
        JumpFence x = with("stop");
        due("load() of an empty text behind a part", x::load, 1);
        put(x, "  ");
        due("load() of blanks behind a part", x::load, 1);
        JumpFence y = with(many("stop", 40));
        due("load() of an empty text behind 40", y::load, 40);
        put(y, "   ");
        due("load() of blanks behind 40", y::load, 40);
        due("fault()", y::fault, NONE);
    }

    private static void wrongBytes() {
        sentence("The first wrong byte: the begin of the first thing that cannot stand there (a NUMBER of more digits,"
                + " or out of its bounds; a word that is none; of an ORDER that would be a 41st in all its first word),"
                + " or the text's length, if more must come.");
        wrongText("stop;jump 0001;foo", 10);
        wrongText("stop;jump 40;foo", 10);
        wrongText("stop;foo;jump 40", 5);
        wrongText("foo", 0);
        wrongText("\0", 0);
        wrongText("stop\0", 4);
        wrongText("stop;\u00ff", 5);
        // a 41st: its first word, be it right or wrong; what is wrong ahead of it comes first
        String forty = many("stop", 40);
        wrongText(forty + ";stop", 200);
        wrongText(forty + ";  stop", 202);
        wrongText(forty + " ; entry 1 stop", 202);
        wrongText(forty + ";entry 9 stop", 200);
        wrongText(forty + ";jump 99", 200);
        wrongText(forty + ";foo", 200);
        wrongText(forty + ";9", 200);
        wrongText(forty + ";stop;foo", 200);
        wrongText(forty + ";", 200);
        wrongText(forty + ";  ", 202);
        wrongText(forty + " stop", 200);
        wrongText("stpo;" + forty, 0);
        wrongText(many("stop", 39) + ";stpo;stop", 195);
        afterParts(40, "stop", 0);
        afterParts(40, "  entry 1 stop", 2);
        afterParts(40, "  ;", 2);
        afterParts(39, "stop;stop", 5);
        afterParts(39, "stop; stop", 6);
        afterParts(39, "stop;", 5);
        afterParts(39, "stop;;stop", 5);
        afterParts(39, "jump 40;stop", 5);
        afterParts(1, forty, 195);
        // more must come: the text's length, with its blanks
        wrongText("jump", 4);
        wrongText("jump  ", 6);
        wrongText("stop; ", 6);
        wrongText("entry", 5);
        wrongText("entry 3   ", 10);
        wrongText("set c", 5);
        wrongText("door c ", 7);
        wrongText("jump" + " ".repeat(396), 400);
        wrongText("stop;" + " ".repeat(395), 400);
        wrongText(";".repeat(400), 0);
        // each cut of a longer text: either it is right, or its end is the first wrong byte, or a word is cut
        String text = "entry 3 set c1 = c2 * 7;if c1 < 9 jump 3;through c15 kind 2";
        for (int n = 1; n < text.length(); n++) {
            JumpFence x = new JumpFence();
            put(x, text);
            x.end(n);
            String cut = text.substring(0, n);
            boolean right = cut.matches(".*= c2|.*= c2 |.*\\* 7|.*jump 3|.*through c1|.*through c15 ?|.*kind 2");
            boolean word = !right && cut.matches(".*[a-z]") && !cut.matches(".*(entry|set|c|if|jump|through|kind)");
            int begin = cut.length() - cut.replaceAll(".*[^a-z]", "").length();
            answer(x::load);
            due("fault() of '" + cut + "'", x::fault, right ? NONE : word ? begin : n);
        }
    }

    private static void afterParts(int there, String text, int at) {
        JumpFence x = with(many("stop", there));
        put(x, text);
        argument("load() of '" + text + "' behind " + there, x::load);
        due("fault() of '" + text + "' behind " + there, x::fault, at);
        due("count(0) behind " + there, () -> x.count(0), there);
    }
}
