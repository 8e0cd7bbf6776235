import java.util.regex.Matcher;
import java.util.regex.Pattern;

/** Promises 1 to 3, and what the section "Terms" says of a text. */
final class TextBoundaries {
    private static final String NODES = ".STF";
    private static final String NUMBER = "(1[0-2]|[1-9])";
    private static final Pattern TEXT = Pattern.compile("[.STF](h?" + NUMBER + "x" + NUMBER + "h?[.STF]){1,3}");

    private TextBoundaries() {
    }

    static void run() {
        newObject();
        signs();
        fifty();
        anotherSign();
        noRoom();
        oneToThreeBeams();
        nodeSigns();
        beamSigns();
        digits();
        noNoughtInFront();
        noBlanks();
        becomesTheRow();
        isGone();
        howMany();
        nothingIsSettled();
        noRows();
        firstWrongSign();
        endsTooEarly();
        tooGreat();
        staysAsItIs();
        goneAllTheSame();
    }

    private static void newObject() {
        Sentences.promise(1, "As behind the text \"F1x1.\" (its last sign is a point).");
        InfluenceRows x = new InfluenceRows();
        InfluenceRows twin = Calls.made("F1x1.");
        Sentences.due("state", Calls.state(x), Calls.state(twin));
        InfluenceRows y = new InfluenceRows();
        Sentences.due("nothing is collected", y.read(), -1);
        Sentences.due("no row is told", y.count(1), 0);
        Sentences.due("first row", y.row(2, 0, 4), 0);
        Sentences.due("move of its tip", Calls.along(y, 0, 0), "0/1 11/384 5/48 27/128 1/3");
        Sentences.due("the last node is not held", y.row(3, 1, 0), -1);
        Sentences.due("nothing is settled", Calls.move(y, 0, 1000, 1), "0/1");
        Sentences.due("there is no second beam", y.row(0, 1, 0), -1);
    }

    private static void signs() {
        Sentences.promise(2, "A sign of 32 .. 126 is collected,");
        for (int u = 32; u <= 126; u++) {
            InfluenceRows x = new InfluenceRows();
            Calls.collect(x, "F1x1S");
            Sentences.due("unit(" + u + ")", x.unit(u), true);
            boolean fits = u >= '1' && u <= '9' || u == 'h';
            Sentences.due("read() with " + u + " behind", x.read(), fits ? -7 : -6);
        }
    }

    private static void fifty() {
        Sentences.promise(2, "at most 50.");
        InfluenceRows x = new InfluenceRows();
        String text = "F1x1.1x1.1x1.";
        for (int i = 0; i < 50; i++) {
            Sentences.due("unit number " + (i + 1), x.unit(i < 13 ? text.charAt(i) : 'z'), true);
        }
        Sentences.due("unit number 51", x.unit('z'), false);
        Sentences.due("read()", x.read(), -14);
        for (int i = 0; i < 50; i++) {
            Sentences.due("unit number " + (i + 1) + " again", x.unit('F'), true);
        }
        Sentences.due("unit number 51 again", x.unit('F'), false);
        Sentences.due("read() again", x.read(), -2);
    }

    private static void anotherSign() {
        Sentences.promise(2, "False: another one,");
        int[] others = {31, 127, 0, -1, 10, 9, 128, 255, 256 + 'S', 65536 + 'S', -65536 + 'S', Calls.MIN + 'S', Calls.MIN, Calls.MAX};
        for (int u : others) {
            Calls.refused("unit(" + u + ")", false, x -> x.unit(u));
        }
        InfluenceRows x = new InfluenceRows();
        for (int i = 0; i < 60; i++) {
            Sentences.due("it takes no room, time " + i, x.unit(31), false);
        }
        Sentences.due("a row of beams", Calls.read(x, "S1x1S1x1S"), 2);
    }

    private static void noRoom() {
        Sentences.promise(2, "no room.");
        InfluenceRows x = Calls.usual();
        InfluenceRows twin = Calls.usual();
        for (int i = 0; i < 50; i++) {
            x.unit("S1x1".charAt(i % 4));
            twin.unit("S1x1".charAt(i % 4));
        }
        int[] more = {'S', 32, 126, 31, 127, '.'};
        for (int u : more) {
            Sentences.due("unit(" + u + ")", x.unit(u), false);
        }
        Sentences.due("what stays", Calls.state(x), Calls.state(twin));
        Sentences.due("room behind read()", x.unit('S'), true);
    }

    private static void oneToThreeBeams() {
        Sentences.term("A TEXT of a row: a node, and 1 to 3 times a beam and a node.");
        String[] texts = {"", "S", "SS", "S1x1S", "S1x1", "S1x1SS", "S1x1S1x1S", "S1x1S1x1", "S1x1S1x1S1x1S", "S1x1S1x1S1x1",
            "S1x1S1x1S1x1S1x1S", "S1x1S1x1S1x1S1", "S1x1S1x1S1x1Sh", "S1x1S1x1S1x1SS",
            "Fh12x12hFh12x12hFh12x12hF", "Fh12x12hFh12x12hFh12x12hFF"};
        int[] want = {-1, -2, -2, 1, -5, -6, 2, -9, 3, -13, -14, -14, -14, -14, 3, -26};
        for (int i = 0; i < texts.length; i++) {
            Sentences.due("read() of '" + texts[i] + "'", Calls.read(new InfluenceRows(), texts[i]), want[i]);
        }
    }

    private static void nodeSigns() {
        Sentences.term("A node is . (not held), S (in height), T (in turning) or F (both).");
        for (int u = 32; u <= 126; u++) {
            boolean node = NODES.indexOf(u) >= 0;
            Sentences.due("first node " + u, Calls.read(new InfluenceRows(), (char) u + "1x1F"), node ? 1 : -1);
        }
        for (int i = 0; i < 4; i++) {
            InfluenceRows x = Calls.made("F1x1" + NODES.charAt(i) + "1x1F");
            Sentences.due("height of " + NODES.charAt(i), x.support(1, 0, false), i == 1 || i == 3);
            Sentences.due("turning of " + NODES.charAt(i), x.support(1, 1, false), i == 2 || i == 3);
        }
    }

    private static void beamSigns() {
        Sentences.term("A beam is h (a hinge at its left end) or nothing, its length, x, its stiffness, "
            + "h (at its right end) or nothing.");
        String[] texts = {"F1x1F", "Fh1x1F", "F1x1hF", "Fh1x1hF", "Fhh1x1F", "F1hx1F", "F1xh1F", "F1x1hhF", "FH1x1F", "F1X1F",
            "F1xx1F", "F11F", "Fx1F", "F1xF", "FhF", "F1F"};
        int[] want = {1, 1, 1, 1, -3, -3, -4, -6, -2, -3, -4, -4, -2, -4, -3, -3};
        String[] hinges = {"00", "10", "01", "11"};
        for (int i = 0; i < texts.length; i++) {
            InfluenceRows x = new InfluenceRows();
            Sentences.due("read() of '" + texts[i] + "'", Calls.read(x, texts[i]), want[i]);
            if (i < 4) {
                String ends = (x.hinge(0, 0, false) ? "1" : "0") + (x.hinge(0, 1, false) ? "1" : "0");
                Sentences.due("hinges of '" + texts[i] + "'", ends, hinges[i]);
            }
        }
        InfluenceRows x = Calls.made("F3x7F");
        x.row(2, 0, 2);
        Sentences.due("first the length, then the stiffness", Calls.at(x, 0, 0, 2), "9/448");
    }

    private static void digits() {
        Sentences.term("Numbers have one or two digits,");
        for (int number = 1; number <= 12; number++) {
            InfluenceRows x = new InfluenceRows();
            Sentences.due("length " + number, Calls.read(x, "F" + number + "x1."), 1);
            Sentences.due("length " + number, x.count(4), number);
            Sentences.due("stiffness " + number, Calls.read(x, "F1x" + number + "."), 1);
            x.row(2, 0, 4);
            Sentences.due("stiffness " + number, Calls.at(x, 0, 0, 4), Fraction.of(1, 3 * number));
        }
        String[] texts = {"F123x1.", "F100x1.", "F12x123.", "F1x111.", "Fx1.", "F1x."};
        int[] want = {-4, -4, -7, -6, -2, -4};
        for (int i = 0; i < texts.length; i++) {
            Sentences.due("read() of '" + texts[i] + "'", Calls.read(new InfluenceRows(), texts[i]), want[i]);
        }
    }

    private static void noNoughtInFront() {
        Sentences.term("no 0 in front.");
        String[] texts = {"F0x1.", "F01x1.", "F00x1.", "F012x1.", "F1x0.", "F1x01.", "F1x012.", "F10x10.", "Fh01x1.", "F1x1.01x1."};
        int[] want = {-2, -2, -2, -2, -4, -4, -4, 1, -3, -6};
        for (int i = 0; i < texts.length; i++) {
            Sentences.due("read() of '" + texts[i] + "'", Calls.read(new InfluenceRows(), texts[i]), want[i]);
        }
    }

    private static void noBlanks() {
        Sentences.term("No blanks.");
        String text = "Fh11x12hS";
        for (int i = 0; i <= text.length(); i++) {
            String blank = text.substring(0, i) + " " + text.substring(i);
            Sentences.due("read() of '" + blank + "'", Calls.read(new InfluenceRows(), blank), -1 - i);
        }
        Sentences.due("read() of a blank", Calls.read(new InfluenceRows(), " "), -1);
    }

    private static void becomesTheRow() {
        Sentences.promise(3, "What was collected becomes the row of beams,");
        InfluenceRows x = Calls.usual();
        Calls.read(x, "S3x2S");
        InfluenceRows twin = Calls.made("S3x2S");
        x.row(2, 0, 2);
        twin.row(2, 0, 2);
        Sentences.due("move in the middle", Calls.at(x, 0, 0, 2), "9/32");
        Sentences.due("nothing is left of the old one", Calls.state(x), Calls.state(twin));
        InfluenceRows y = Calls.made("Fh1x1hFh1x1hFh1x1hF");
        Calls.read(y, "S1x1S");
        Calls.read(y, ".1x1.1x1.1x1.");
        Sentences.due("no hinge is left of the longest", y.count(2), 0);
        Sentences.due("none is held of the longest", y.count(3), 0);
    }

    private static void isGone() {
        Sentences.promise(3, "and is gone:");
        InfluenceRows x = Calls.made("S1x1S");
        Sentences.due("read() again, empty", x.read(), -1);
        Sentences.due("beams", x.count(0), 1);
        Sentences.due("the next text stands by itself", Calls.read(x, "S1x1S1x1S"), 2);
    }

    private static void howMany() {
        Sentences.promise(3, "how many beams;");
        InfluenceRows x = new InfluenceRows();
        String[] texts = {"F1x1.", "F1x1.1x1.", "F1x1.1x1.1x1.", "S9x9S"};
        int[] want = {1, 2, 3, 1};
        for (int i = 0; i < texts.length; i++) {
            Sentences.due("read() of '" + texts[i] + "'", Calls.read(x, texts[i]), want[i]);
            Sentences.due("count(0)", x.count(0), want[i]);
        }
    }

    private static void nothingIsSettled() {
        Sentences.promise(3, "nothing is settled,");
        InfluenceRows x = Calls.made("S1x1S1x1S");
        for (int node = 0; node < 3; node++) {
            x.settled(node, 1000);
        }
        Calls.read(x, "S1x1S1x1S");
        for (int node = 0; node < 3; node++) {
            Sentences.due("node " + node, Calls.move(x, node, 1, 1), "0/1");
        }
    }

    private static void noRows() {
        Sentences.promise(3, "no rows are told.");
        InfluenceRows x = Calls.made("S1x1S");
        for (int i = 0; i < 8; i++) {
            x.row(0, 0, 2);
        }
        Calls.read(x, "S1x1S");
        Sentences.due("rows", x.count(1), 0);
        Sentences.due("at(0, ..)", Calls.at(x, 0, 0, 2), "none");
        Sentences.due("area(7, ..)", Calls.area(x, 7, 1), "none");
        Sentences.due("turned(0)", x.turned(0), false);
        for (int i = 0; i < 8; i++) {
            Sentences.due("there is room for eight again", x.row(0, 0, 2), i);
        }
    }

    /** Another reader: the longest beginning of a text that some right text has. */
    private static int wanted(String text) {
        if (TEXT.matcher(text).matches()) {
            return (int) text.chars().filter(c -> c == 'x').count();
        }
        int i = 0;
        while (i < text.length() && canGoOn(text.substring(0, i + 1))) {
            i++;
        }
        boolean second = i > 0 && i < text.length() && isDigit(text, i) && isDigit(text, i - 1) && !isDigit(text, i - 2);
        return -1 - (second ? i - 1 : i);
    }

    private static boolean canGoOn(String start) {
        Matcher matcher = TEXT.matcher(start);
        return matcher.matches() || matcher.hitEnd();
    }

    private static boolean isDigit(String text, int index) {
        return index >= 0 && text.charAt(index) >= '0' && text.charAt(index) <= '9';
    }

    private static void readAs(String text) {
        Sentences.due("read() of '" + text + "'", Calls.read(new InfluenceRows(), text), wanted(text));
    }

    private static void firstWrongSign() {
        Sentences.promise(3, "- 1 less the number (from 0 on) of its first sign that is wrong");
        Sentences.due("number 0", Calls.read(new InfluenceRows(), "x1x1."), -1);
        Sentences.due("number 1", Calls.read(new InfluenceRows(), "FS1x1."), -2);
        Sentences.due("the first of two", Calls.read(new InfluenceRows(), "F1y1z"), -3);
        Sentences.due("number 49", Calls.read(new InfluenceRows(), "F".repeat(50)), -2);
        Sentences.due("the sign behind 9 is no digit", Calls.read(new InfluenceRows(), "F1:x1."), -3);
        Sentences.due("the sign before 0 is no digit", Calls.read(new InfluenceRows(), "F1/x1."), -3);
        String[] right = {"F1x1.", "Sh12x9hT", ".3x10S2x4hF", "F1x1.h11x12hS4x10T"};
        for (String text : right) {
            for (int i = 0; i <= text.length(); i++) {
                for (char sign = 32; sign <= 126; sign++) {
                    readAs(text.substring(0, i) + sign + text.substring(i));
                    readAs(text.substring(0, i) + sign + text.substring(Math.min(i + 1, text.length())));
                }
                readAs(text.substring(0, i) + text.substring(Math.min(i + 1, text.length())));
            }
        }
    }

    private static void endsTooEarly() {
        Sentences.promise(3, "(if it ends too early, the one behind the last;");
        String text = "Fh12x11hS";
        for (int i = 0; i < text.length(); i++) {
            Sentences.due("read() of '" + text.substring(0, i) + "'", Calls.read(new InfluenceRows(), text.substring(0, i)), -1 - i);
        }
        Sentences.due("a second beam", Calls.read(new InfluenceRows(), "F1x1.1x1"), -9);
        Sentences.due("a second beam's first hinge", Calls.read(new InfluenceRows(), "F1x1.h"), -7);
        Sentences.due("a third beam", Calls.read(new InfluenceRows(), "F1x1.1x1.1x1h"), -14);
    }

    private static void tooGreat() {
        Sentences.promise(3, "of a number that is too great, its first digit):");
        for (int number = 13; number <= 99; number++) {
            Sentences.due("length " + number, Calls.read(new InfluenceRows(), "F" + number + "x1."), -2);
            Sentences.due("stiffness " + number, Calls.read(new InfluenceRows(), "F1x" + number + "."), -4);
        }
        Sentences.due("behind a hinge", Calls.read(new InfluenceRows(), "Fh13x1."), -3);
        Sentences.due("of the third beam", Calls.read(new InfluenceRows(), "F1x1.1x1.1x13"), -12);
        Sentences.due("nothing behind it", Calls.read(new InfluenceRows(), "F99"), -2);
        Sentences.due("12 is not too great", Calls.read(new InfluenceRows(), "F12x12."), 1);
    }

    private static void staysAsItIs() {
        Sentences.promise(3, "the row of beams stays as it is then");
        String[] texts = {"", "S", "S1x1", "S1x1S1x1S1x1Sh", "S12x13S", "S3x3hSh4x4hTx", "Q", "S1x1S1x1S1x1S."};
        for (String text : texts) {
            InfluenceRows x = Calls.usual();
            Sentences.due("read() of '" + text + "'", Calls.read(x, text) < 0, true);
            Sentences.due("what stays", Calls.state(x), Calls.state(Calls.usual()));
        }
    }

    private static void goneAllTheSame() {
        Sentences.promise(3, "(what was collected is gone all the same).");
        InfluenceRows x = Calls.usual();
        Sentences.due("it ends too early", Calls.read(x, "S1x1"), -5);
        Sentences.due("the rest alone", Calls.read(x, "S"), -2);
        Sentences.due("nothing", x.read(), -1);
        Sentences.due("fifty wrong ones", Calls.read(x, "z".repeat(50)), -1);
        Sentences.due("room again", x.unit('S'), true);
        Sentences.due("and it is the first", Calls.read(x, "1x1S"), 1);
    }
}
