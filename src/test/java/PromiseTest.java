import java.math.BigInteger;

/** Each promise by itself: ordinary inputs, the edges that the document names, and wrong inputs. */
public final class PromiseTest {
    private static int wrong = 0;
    private static int checked = 0;
    private static String promise = "";

    public static void main(String[] args) {
        newObject();
        unit();
        read();
        readWrong();
        readKeeps();
        member();
        support();
        hinge();
        solve();
        loose();
        row();
        atMoment();
        atShear();
        atMove();
        atReaction();
        atWrong();
        area();
        areaWrong();
        longParts();
        turned();
        oneAfterAnother();
        seenAtOnce();
        sums();
        settled();
        move();
        moveWrong();
        count();
        System.out.println("promises: " + checked + " answers looked at, " + wrong + " wrong");
        if (wrong > 0) {
            System.exit(1);
        }
    }

    private static void due(String call, long got, long want) {
        checked++;
        if (got != want) {
            wrong++;
            System.out.println(promise + ": " + call + " answered " + got + ", due is " + want);
        }
    }

    private static void due(String call, boolean got, boolean want) {
        due(call, got ? 1 : 0, want ? 1 : 0);
    }

    private static InfluenceRows made(String text) {
        InfluenceRows x = new InfluenceRows();
        int got = readText(x, text);
        if (got < 1) {
            due("read() of " + text, got, 1);
        }
        return x;
    }

    private static int readText(InfluenceRows x, String text) {
        for (int i = 0; i < text.length(); i++) {
            x.unit(text.charAt(i));
        }
        return x.read();
    }

    private static void dueAt(InfluenceRows x, int row, int member, int place, long up, long low) {
        String call = "at(" + row + ", " + member + ", " + place + ")";
        due(call + " sign", x.at(row, member, place, -1), Long.signum(up));
        due(call + " upper", x.at(row, member, place, 0), Math.abs(up));
        due(call + " lower", x.at(row, member, place, 1), low);
        due(call + " beyond", x.at(row, member, place, 2) + x.at(row, member, place, 3), 0);
    }

    private static void dueArea(InfluenceRows x, int row, int sign, long up, long low) {
        String call = "area(" + row + ", " + sign + ")";
        due(call + " sign", x.area(row, sign, -1), Long.signum(up));
        due(call + " upper", x.area(row, sign, 0), up);
        due(call + " lower", x.area(row, sign, 1), low);
    }

    private static void dueMove(InfluenceRows x, int node, long above, long below, long up, long low) {
        String call = "move(" + node + ", " + above + ", " + below + ")";
        due(call + " sign", x.move(node, above, below, -1), Long.signum(up));
        due(call + " upper", x.move(node, above, below, 0), Math.abs(up));
        due(call + " lower", x.move(node, above, below, 1), low);
        due(call + " beyond", x.move(node, above, below, 2) + x.move(node, above, below, 3), 0);
    }

    private interface Call {
        boolean go();
    }

    private static void dueThrow(String call, Call what) {
        String got = "nothing";
        try {
            what.go();
        } catch (RuntimeException e) {
            got = e.getClass().getName();
        }
        checked++;
        if (!got.equals("java.lang.ArrayIndexOutOfBoundsException")) {
            wrong++;
            System.out.println(promise + ": " + call + " throws " + got);
        }
    }

    private static void newObject() {
        promise = "promise 1";
        InfluenceRows x = new InfluenceRows();
        due("BAD", InfluenceRows.BAD, -1);
        due("NONE", InfluenceRows.NONE, -2);
        int[] counts = {1, 0, 0, 1, 1};
        for (int what = 0; what < counts.length; what++) {
            due("count(" + what + ")", x.count(what), counts[what]);
        }
        due("solve()", x.solve(), 0);
        due("read() of nothing", x.read(), -1);
        due("row of the tip's move", x.row(2, 0, 4), 0);
        dueAt(x, 0, 0, 4, 1, 3);
        due("row of the foot's moment", x.row(0, 0, 0), 1);
        dueAt(x, 1, 0, 4, -1, 1);
        due("held in height", x.support(0, 0, true), true);
        due("held in turning", x.support(0, 1, true), true);
        due("not held in height", x.support(1, 0, false), false);
        due("not held in turning", x.support(1, 1, false), false);
        due("no hinge at the left", x.hinge(0, 0, false), false);
        due("no hinge at the right", x.hinge(0, 1, false), false);
        dueMove(x, 0, 1, 1, 0, 1);
    }

    private static void unit() {
        promise = "promise 2";
        InfluenceRows x = new InfluenceRows();
        int[] none = {31, 127, 0, -1, 10, 255, 65536 + 'F', Integer.MIN_VALUE, Integer.MAX_VALUE};
        for (int u : none) {
            due("unit(" + u + ")", x.unit(u), false);
        }
        due("nothing was collected", readText(x, "S3x2S"), 1);
        due("unit(32)", x.unit(32), true);
        due("unit(126)", x.unit(126), true);
        due("a blank is collected, and wrong", x.read(), -1);
        for (int i = 0; i < 50; i++) {
            due("unit number " + i, x.unit("S1x1S".charAt(i % 5)), true);
        }
        due("unit number 50", x.unit('S'), false);
        due("unit number 51", x.unit(31), false);
        due("read() of fifty", x.read(), -6);
        due("room again", x.unit('S'), true);
    }

    private static void read() {
        promise = "promise 3";
        InfluenceRows x = new InfluenceRows();
        due("one beam", readText(x, "Sh3x2hS"), 1);
        due("hinges", x.count(2), 2);
        due("two beams", readText(x, "F12x10.1x9T"), 2);
        due("length", x.count(4), 13);
        due("held", x.count(3), 1);
        due("three beams", readText(x, "F12x12hSh11x11hFh10x10T"), 3);
        due("hinges", x.count(2), 4);
        due("held", x.count(3), 3);
        due("length", x.count(4), 33);
        due("hinge left of 0", x.hinge(0, 0, false), false);
        due("hinge right of 0", x.hinge(0, 1, true), true);
        due("hinge left of 1", x.hinge(1, 0, true), true);
        due("hinge right of 1", x.hinge(1, 1, true), true);
        due("hinge left of 2", x.hinge(2, 0, true), true);
        due("hinge right of 2", x.hinge(2, 1, false), false);
        String height = "1110";
        String turning = "1011";
        for (int node = 0; node < 4; node++) {
            boolean high = height.charAt(node) == '1';
            boolean stays = turning.charAt(node) == '1';
            due("height of " + node, x.support(node, 0, high), high);
            due("turning of " + node, x.support(node, 1, stays), stays);
        }
        due("fewer beams again", readText(x, ".1x1."), 1);
        due("beams", x.count(0), 1);
        due("held", x.count(3), 0);
        due("hinges", x.count(2), 0);
    }

    private static void readWrong() {
        promise = "promise 3";
        String[] texts = {
            "", "0", "h", "1", " ", "f", "F0", "F", "Fh", "Fhh", "F1", "F1x", "F1x1", "F1x1h", "F1x1hh", "F1x1.",
            "F0x1.", "F01x1.", "F1x0.", "F1x01.", "F13x1.", "F99x1.", "F20", "F1x13.", "F1x99.", "F1x19", "F10x10.",
            "F12x12.", "F123x1.", "F134x1.", "F1x123.", "F1x135.", "F1X1.", "F1 x1.", "F1x1. ", "F1x1..", "F1x1.h",
            "F1x1.1", "F1x1.1x", "F1x1.1x1", "F1x1.h1x1h", "F1x1.1x1.1x1.", "F1x1.1x1.1x1.1", "F1x1.1x1.1x1.h",
            "F1x1.1x1.1x1..", "F1x1.1x1.1x14.", "F1x1.13x1", "F1xh1.", "F1hx1.", "FF", "F-1x1.", "F1x1s", "F1x1.0x1."};
        int[] due = {
            -1, -1, -1, -1, -1, -1, -2, -2, -3, -3, -3, -4, -5, -6, -6, 1,
            -2, -2, -4, -4, -2, -2, -2, -4, -4, -4, 1,
            1, -4, -2, -6, -4, -3, -3, -6, -6, -7,
            -7, -8, -9, -11, 3, -14, -14,
            -14, -12, -6, -4, -3, -2, -2, -5, -6};
        due("as many answers as texts", due.length, texts.length);
        InfluenceRows x = new InfluenceRows();
        for (int i = 0; i < texts.length && i < due.length; i++) {
            due("read() of '" + texts[i] + "'", readText(x, texts[i]), due[i]);
        }
    }

    private static void readKeeps() {
        promise = "promise 3";
        InfluenceRows x = made("S4x1S2x3S");
        x.row(0, 0, 2);
        x.row(2, 1, 2);
        x.settled(1, 7);
        due("a wrong text", readText(x, "F3x3.3x3hF0"), -11);
        due("beams stay", x.count(0), 2);
        due("rows stay", x.count(1), 2);
        due("hinges stay", x.count(2), 0);
        due("held stay", x.count(3), 3);
        due("lengths stay", x.count(4), 6);
        dueMove(x, 1, 1, 1, 7, 1);
        due("what was collected is gone", x.read(), -1);
        due("no rows after a text", readText(x, "S4x1S2x3S"), 2);
        due("rows", x.count(1), 0);
        due("at of a row that is gone", x.at(0, 0, 0, 0), -1);
        dueMove(x, 1, 1, 1, 0, 1);
        due("the first row's number again", x.row(1, 0, 0), 0);
    }

    private static void member() {
        promise = "promise 4";
        InfluenceRows x = made("S1x1S2x2S");
        x.row(2, 0, 2);
        x.settled(2, 9);
        dueThrow("member(-1, ..)", () -> x.member(-1, 1, 1));
        dueThrow("member(2, ..)", () -> x.member(2, 1, 1));
        dueThrow("member(3, 0, 0)", () -> x.member(3, 0, 0));
        dueThrow("member(MAX, ..)", () -> x.member(Integer.MAX_VALUE, 1, 1));
        dueThrow("member(MIN, ..)", () -> x.member(Integer.MIN_VALUE, 99, 1));
        long[] none = {0, 13, -1, 4294967297L, Long.MIN_VALUE, Long.MAX_VALUE};
        for (long number : none) {
            due("member(0, " + number + ", 1)", x.member(0, number, 1), false);
            due("member(0, 5, " + number + ")", x.member(0, 5, number), false);
        }
        due("length as before", x.count(4), 3);
        due("member(0, 12, 12)", x.member(0, 12, 12), true);
        due("length", x.count(4), 14);
        due("member(1, 1, 1)", x.member(1, 1, 1), true);
        due("length", x.count(4), 13);
        due("rows stay", x.count(1), 1);
        dueMove(x, 2, 1, 1, 9, 1);
        InfluenceRows y = made("S1x1S");
        y.row(2, 0, 2);
        dueAt(y, 0, 0, 2, 1, 48);
        y.member(0, 4, 2);
        dueAt(y, 0, 0, 2, 2, 3);
    }

    private static void support() {
        promise = "promise 5";
        InfluenceRows x = made("S1x1S");
        dueThrow("support(-1, 0, true)", () -> x.support(-1, 0, true));
        dueThrow("support(2, 0, true)", () -> x.support(2, 0, true));
        dueThrow("support(2, 7, true)", () -> x.support(2, 7, true));
        dueThrow("support(MIN, 1, false)", () -> x.support(Integer.MIN_VALUE, 1, false));
        dueThrow("support(MAX, 1, false)", () -> x.support(Integer.MAX_VALUE, 1, false));
        int[] none = {-1, 2, Integer.MIN_VALUE, Integer.MAX_VALUE};
        for (int axis : none) {
            due("support(0, " + axis + ", true)", x.support(0, axis, true), false);
            due("support(0, " + axis + ", false)", x.support(0, axis, false), false);
        }
        due("nothing changed", x.count(3), 2);
        due("was held", x.support(0, 0, true), true);
        due("was held, is no more", x.support(0, 0, false), true);
        due("was not held, is not", x.support(0, 0, false), false);
        due("held", x.count(3), 1);
        due("loose now", x.solve(), 2);
        due("was not held, is now", x.support(0, 0, true), false);
        due("turning was not held", x.support(0, 1, true), false);
        due("turning was held", x.support(0, 1, true), true);
        due("turning was held, is no more", x.support(0, 1, false), true);
        due("held in height all the same", x.count(3), 2);
        x.row(0, 0, 0);
        x.row(0, 0, 2);
        dueAt(x, 0, 0, 2, 0, 1);
        x.support(0, 1, true);
        due("rows stay", x.count(1), 2);
        dueAt(x, 0, 0, 2, -3, 16);
        x.support(1, 1, true);
        dueAt(x, 0, 0, 2, -1, 8);
        dueAt(x, 1, 0, 2, 1, 8);
    }

    private static void hinge() {
        promise = "promise 6";
        InfluenceRows x = made("F1x1F1x1F");
        dueThrow("hinge(-1, 0, true)", () -> x.hinge(-1, 0, true));
        dueThrow("hinge(2, 0, true)", () -> x.hinge(2, 0, true));
        dueThrow("hinge(2, 5, true)", () -> x.hinge(2, 5, true));
        dueThrow("hinge(MIN, 0, true)", () -> x.hinge(Integer.MIN_VALUE, 0, true));
        dueThrow("hinge(MAX, 0, true)", () -> x.hinge(Integer.MAX_VALUE, 0, true));
        int[] none = {-1, 2, Integer.MIN_VALUE, Integer.MAX_VALUE};
        for (int end : none) {
            due("hinge(0, " + end + ", true)", x.hinge(0, end, true), false);
        }
        due("nothing changed", x.count(2), 0);
        x.row(0, 0, 0);
        x.row(0, 0, 4);
        dueAt(x, 0, 0, 2, -1, 8);
        due("had none", x.hinge(0, 1, true), false);
        due("had one", x.hinge(0, 1, true), true);
        due("hinges", x.count(2), 1);
        due("rows stay", x.count(1), 2);
        dueAt(x, 0, 0, 2, -3, 16);
        dueAt(x, 1, 0, 2, 0, 1);
        due("had one, has none", x.hinge(0, 1, false), true);
        due("had none, has none", x.hinge(0, 1, false), false);
        dueAt(x, 0, 0, 2, -1, 8);
        due("the other end", x.hinge(1, 0, true), false);
        due("is another hinge", x.hinge(0, 1, false), false);
        due("hinges", x.count(2), 1);
    }

    private static void solve() {
        promise = "promise 7";
        String[] texts = {"F1x1.", "S1x1S", "S1x1.", ".1x1.", "T1x1T", "F1x1hSh1x1F", "S1x1h.h1x1S", "Sh1x1h.h1x1hS",
            "F1x1h.h1x1F", "F1x1h.h1x1.", "F1x1h.h1x1hS", "S1x1hS1x1.", ".1x1.1x1.1x1.", "Fh1x1.", "Th1x1F",
            "F1x1h.h1x1h.h1x1F", "S1x1T", "Fh1x1hF", "F1x1hT1x1S", "S1x1hT1x1."};
        int[] due = {0, 0, 2, 2, 2, 0, 3, 1, 0, 1, 0, 2, 4, 1, 0, 0, 0, 0, 0, 3};
        due("as many answers as texts", due.length, texts.length);
        for (int i = 0; i < texts.length && i < due.length; i++) {
            InfluenceRows x = made(texts[i]);
            due("solve() of " + texts[i], x.solve(), due[i]);
            due("solve() again of " + texts[i], x.solve(), due[i]);
        }
    }

    private static void loose() {
        promise = "promise 8";
        InfluenceRows x = made("F1x1hS1x1.");
        due("none is loose in the middle's left", x.solve(), 2);
        due("loose(0)", x.loose(0), 1);
        due("loose(1)", x.loose(1), 2);
        due("loose(2)", x.loose(2), -1);
        due("loose(-1)", x.loose(-1), -1);
        due("loose(MIN)", x.loose(Integer.MIN_VALUE), -1);
        due("loose(MAX)", x.loose(Integer.MAX_VALUE), -1);
        x.support(2, 0, true);
        due("as it is now", x.loose(0), -1);
        x.support(0, 0, false);
        x.support(0, 1, false);
        due("only the left beam", x.loose(0), 0);
        due("its right end has a hinge", x.loose(1), -1);
        InfluenceRows y = made("Sh1x1h.h1x1hS");
        due("loose(0)", y.loose(0), 1);
        due("turns of hinged ends do not count", y.loose(1), -1);
        due("not loose at all", new InfluenceRows().loose(0), -1);
    }

    private static void row() {
        promise = "promise 9";
        InfluenceRows x = made("S4x1.4x1S");
        int[][] none = {{-1, 0, 0}, {4, 0, 0}, {0, -1, 0}, {0, 2, 0}, {1, 2, 0}, {2, 2, 0}, {0, 0, -1}, {0, 0, 5},
            {1, 0, 5}, {2, 1, 5}, {3, 0, 1}, {3, 0, -1}, {3, 1, 0}, {3, 3, 0}, {3, -1, 0}, {3, 2, 4},
            {Integer.MIN_VALUE, 0, 0}, {Integer.MAX_VALUE, 0, 0}, {0, Integer.MIN_VALUE, 0}, {2, Integer.MAX_VALUE, 0},
            {3, Integer.MAX_VALUE, 0}, {3, Integer.MIN_VALUE, 0}, {0, 0, Integer.MAX_VALUE}, {0, 0, Integer.MIN_VALUE}};
        for (int[] one : none) {
            due("row(" + one[0] + ", " + one[1] + ", " + one[2] + ")", x.row(one[0], one[1], one[2]), -1);
        }
        due("rows", x.count(1), 0);
        due("row(3, 2, 0)", x.row(3, 2, 0), 0);
        due("the same again is a new one", x.row(3, 2, 0), 1);
        for (int what = 0; what < 3; what++) {
            due("row(" + what + ", 1, 4)", x.row(what, 1, 4), 2 + 2 * what);
            due("row(" + what + ", 0, 0)", x.row(what, 0, 0), 3 + 2 * what);
        }
        due("a ninth", x.row(0, 0, 0), -1);
        due("rows", x.count(1), 8);
        InfluenceRows y = made(".1x1.");
        due("a row of a loose one", y.row(2, 0, 0), 0);
        due("no reaction where nothing is held", y.row(3, 0, 0), -1);
        y.support(1, 1, true);
        due("turning alone is no height", y.row(3, 1, 0), -1);
        y.support(1, 0, true);
        due("a reaction now", y.row(3, 1, 0), 1);
        dueAt(y, 1, 0, 2, 1, 1);
    }

    private static void atMoment() {
        promise = "promise 10";
        InfluenceRows x = made("S4x5S");
        x.row(0, 0, 2);
        x.row(0, 0, 0);
        x.row(0, 0, 4);
        x.row(0, 0, 1);
        long[] middle = {0, 1, 2, 1, 0};
        for (int place = 0; place <= 4; place++) {
            dueAt(x, 0, 0, place, place == 2 ? 1 : middle[place], middle[place] == 1 ? 2 : 1);
            dueAt(x, 1, 0, place, 0, 1);
            dueAt(x, 2, 0, place, 0, 1);
        }
        dueAt(x, 3, 0, 1, 3, 4);
        dueAt(x, 3, 0, 3, 1, 4);
        InfluenceRows y = made("F4x3F");
        y.row(0, 0, 0);
        y.row(0, 0, 4);
        y.row(0, 0, 1);
        dueAt(y, 0, 0, 1, -9, 16);
        dueAt(y, 1, 0, 1, -3, 16);
        dueAt(y, 2, 0, 1, 9, 32);
        InfluenceRows two = made("S1x1S1x1S");
        two.row(0, 0, 4);
        two.row(0, 1, 0);
        for (int row = 0; row < 2; row++) {
            dueAt(two, row, 0, 2, -3, 32);
            dueAt(two, row, 1, 2, -3, 32);
            dueAt(two, row, 0, 4, 0, 1);
        }
    }

    private static void atShear() {
        promise = "promise 10";
        InfluenceRows x = made("S4x7S");
        x.row(1, 0, 2);
        x.row(1, 0, 0);
        x.row(1, 0, 4);
        int[] middle = {0, -1, 2, 1, 0};
        int[] first = {0, 3, 2, 1, 0};
        int[] last = {0, -1, -2, -3, 0};
        for (int place = 0; place <= 4; place++) {
            int[] rows = {middle[place], first[place], last[place]};
            for (int row = 0; row < 3; row++) {
                int low = rows[row] == 0 ? 1 : rows[row] % 2 == 0 ? 2 : 4;
                dueAt(x, row, 0, place, rows[row] * low / 4, low);
            }
        }
        InfluenceRows tip = new InfluenceRows();
        tip.row(1, 0, 4);
        tip.row(1, 0, 3);
        dueAt(tip, 0, 0, 4, 1, 1);
        dueAt(tip, 0, 0, 3, 0, 1);
        dueAt(tip, 1, 0, 3, 1, 1);
        dueAt(tip, 1, 0, 2, 0, 1);
        dueAt(tip, 0, 0, 0, 0, 1);
    }

    private static void atMove() {
        promise = "promise 10";
        InfluenceRows x = made("S4x1S");
        x.row(2, 0, 2);
        dueAt(x, 0, 0, 0, 0, 1);
        dueAt(x, 0, 0, 1, 11, 12);
        dueAt(x, 0, 0, 2, 4, 3);
        dueAt(x, 0, 0, 3, 11, 12);
        InfluenceRows y = made("S2x1S2x1.");
        y.row(2, 0, 2);
        dueAt(y, 0, 1, 4, -1, 2);
        y.row(2, 1, 4);
        dueAt(y, 1, 0, 2, -1, 2);
        dueAt(y, 1, 1, 4, 16, 3);
        InfluenceRows z = made("F1x1h.h2x2F");
        z.row(2, 0, 4);
        z.row(2, 1, 0);
        dueAt(z, 0, 0, 4, 4, 15);
        dueAt(z, 0, 1, 0, 4, 15);
        dueAt(z, 1, 1, 0, 4, 15);
    }

    private static void atReaction() {
        promise = "promise 10";
        InfluenceRows x = made("S4x2S");
        x.row(3, 0, 0);
        x.row(3, 1, 0);
        for (int place = 0; place <= 4; place++) {
            int low = place == 2 ? 2 : place % 4 == 0 ? 1 : 4;
            dueAt(x, 0, 0, place, (4 - place) * low / 4, low);
            dueAt(x, 1, 0, place, place * low / 4, low);
        }
        InfluenceRows y = made("S2x1S1x1.");
        y.row(3, 0, 0);
        y.row(3, 1, 0);
        dueAt(y, 0, 1, 4, -1, 2);
        dueAt(y, 1, 1, 4, 3, 2);
        dueAt(y, 1, 1, 0, 1, 1);
        dueAt(y, 1, 0, 4, 1, 1);
    }

    private static void dueNone(String why, InfluenceRows x, int row, int member, int place) {
        due(why + ", sign", x.at(row, member, place, -1), -2);
        due(why + ", upper", x.at(row, member, place, 0), -1);
        due(why + ", lower", x.at(row, member, place, 1), -1);
        due(why + ", no part", x.at(row, member, place, -2), -1);
    }

    private static void atWrong() {
        promise = "promise 10";
        InfluenceRows x = made("S4x1.4x1S");
        x.row(0, 0, 2);
        x.row(3, 2, 0);
        int[] far = {-1, Integer.MIN_VALUE, Integer.MAX_VALUE};
        for (int one : far) {
            dueNone("row " + one, x, one, 0, 0);
            dueNone("beam " + one, x, 0, one, 0);
            dueNone("place " + one, x, 0, 0, one);
        }
        dueNone("row 2", x, 2, 0, 0);
        dueNone("row 8", x, 8, 0, 0);
        dueNone("beam 2", x, 0, 2, 0);
        dueNone("place 5", x, 0, 0, 5);
        due("part -2", x.at(0, 0, 1, -2), -1);
        due("part -3", x.at(0, 0, 1, -3), -1);
        due("part MIN", x.at(0, 0, 1, Integer.MIN_VALUE), -1);
        due("part 2", x.at(0, 0, 1, 2), 0);
        due("part MAX", x.at(0, 0, 1, Integer.MAX_VALUE), 0);
        due("part MAX - 1", x.at(0, 0, 1, Integer.MAX_VALUE - 1), 0);
        x.support(1, 0, true);
        x.support(2, 0, false);
        dueAt(x, 0, 0, 2, 1, 1);
        dueNone("reaction of a node not held now", x, 1, 0, 2);
        x.support(2, 0, true);
        dueAt(x, 1, 1, 4, 1, 1);
        x.support(0, 0, false);
        x.support(1, 0, false);
        dueNone("loose", x, 0, 0, 2);
        dueNone("loose, reaction", x, 1, 0, 2);
        x.support(0, 0, true);
        dueAt(x, 0, 0, 2, 3, 2);
    }

    private static void area() {
        promise = "promise 11";
        InfluenceRows x = made("S4x1S");
        x.row(0, 0, 2);
        x.row(1, 0, 2);
        x.row(3, 0, 0);
        dueArea(x, 0, 1, 2, 1);
        dueArea(x, 0, -1, 0, 1);
        dueArea(x, 1, 1, 2, 3);
        dueArea(x, 1, -1, 1, 6);
        dueArea(x, 2, 1, 2, 1);
        dueArea(x, 2, -1, 0, 1);
        x.member(0, 12, 1);
        dueArea(x, 0, 1, 18, 1);
        dueArea(x, 1, 1, 2, 1);
        InfluenceRows y = made("S4x1S2x1.");
        y.row(0, 0, 4);
        y.row(3, 0, 0);
        y.row(3, 1, 0);
        dueArea(y, 0, -1, 2, 1);
        dueArea(y, 0, 1, 0, 1);
        dueArea(y, 1, 1, 2, 1);
        dueArea(y, 1, -1, 1, 2);
        dueArea(y, 2, 1, 9, 2);
        InfluenceRows tip = new InfluenceRows();
        tip.row(2, 0, 4);
        dueArea(tip, 0, 1, 49, 384);
    }

    private static void areaWrong() {
        promise = "promise 11";
        InfluenceRows x = made("S4x1.4x1S");
        x.row(0, 0, 2);
        x.row(3, 2, 0);
        int[] signs = {0, 2, -2, Integer.MIN_VALUE, Integer.MAX_VALUE};
        for (int sign : signs) {
            due("area(0, " + sign + ", -1)", x.area(0, sign, -1), -2);
            due("area(0, " + sign + ", 0)", x.area(0, sign, 0), -1);
        }
        int[] rows = {-1, 2, 8, Integer.MIN_VALUE, Integer.MAX_VALUE};
        for (int row : rows) {
            due("area(" + row + ", 1, -1)", x.area(row, 1, -1), -2);
            due("area(" + row + ", 1, 0)", x.area(row, 1, 0), -1);
        }
        due("part -2", x.area(0, 1, -2), -1);
        due("part MIN", x.area(0, 1, Integer.MIN_VALUE), -1);
        due("part 9", x.area(0, 1, 9), 0);
        due("part MAX", x.area(0, 1, Integer.MAX_VALUE), 0);
        x.support(1, 0, true);
        x.support(2, 0, false);
        due("reaction of a node not held now", x.area(1, 1, 0), -1);
        due("reaction of a node not held now, sign", x.area(1, 1, -1), -2);
        dueArea(x, 0, 1, 2, 1);
        x.support(1, 0, false);
        due("loose", x.area(0, 1, 0), -1);
        due("loose, sign", x.area(0, 1, -1), -2);
    }

    /** An area whose both parts have more than eighteen digits. */
    private static void longParts() {
        promise = "promise 11, parts";
        InfluenceRows x = made("S11x3S12x5.7x11F");
        int found = 0;
        for (int what = 0; what < 3; what++) {
            for (int beam = 0; beam < 2; beam++) {
                x.row(what, beam, 3);
            }
        }
        BigInteger base = BigInteger.TEN.pow(18);
        for (int row = 0; row < 6; row++) {
            for (int sign = -1; sign <= 1; sign += 2) {
                BigInteger up = BigInteger.valueOf(x.area(row, sign, 2)).multiply(base)
                    .add(BigInteger.valueOf(x.area(row, sign, 0)));
                BigInteger low = BigInteger.valueOf(x.area(row, sign, 3)).multiply(base)
                    .add(BigInteger.valueOf(x.area(row, sign, 1)));
                due("least terms", up.gcd(low).equals(BigInteger.ONE), true);
                due("beyond the last", x.area(row, sign, 4) + x.area(row, sign, 5), 0);
                found += x.area(row, sign, 3) > 0 ? 1 : 0;
            }
        }
        due("a lower part that goes on", found > 0, true);
        long[] below = {1, 836343303050623731L, 726875797400208256L, 229, 68, 0, 0};
        long[] above = {1, 977574221439008783L, 214262595982140032L, 26, 106, 0, 0};
        for (int part = -1; part < 6; part++) {
            due("area(2, -1, " + part + ")", x.area(2, -1, part), below[part + 1]);
            due("area(2, 1, " + part + ")", x.area(2, 1, part), above[part + 1]);
        }
    }

    private static void turned() {
        promise = "promise 12";
        InfluenceRows x = made("F7x3S5x2h.3x11S");
        for (int row = 0; row < 3; row++) {
            x.row(2, row, 3 - row);
        }
        x.row(0, 0, 2);
        x.row(1, 0, 2);
        x.row(3, 1, 0);
        for (int row = 0; row < 3; row++) {
            due("turned(" + row + ")", x.turned(row), true);
        }
        int[] none = {3, 4, 5, 6, 8, -1, Integer.MIN_VALUE, Integer.MAX_VALUE};
        for (int row : none) {
            due("turned(" + row + ")", x.turned(row), false);
        }
        x.member(1, 12, 12);
        due("after a change", x.turned(1), true);
        dueAt(x, 3, 0, 0, 0, 1);
        x.support(3, 0, false);
        x.hinge(2, 0, true);
        due("loose", x.solve() > 0, true);
        due("turned of a loose one", x.turned(0), false);
    }

    /** Fractions that were told last are not taken for other ones. */
    private static void oneAfterAnother() {
        promise = "promises 10 to 15, one after another";
        InfluenceRows x = made("S2x1S2x1.");
        x.row(2, 0, 2);
        x.row(2, 1, 4);
        x.row(3, 1, 0);
        due("at(0, 1, 4, 1)", x.at(0, 1, 4, 1), 2);
        due("at(1, 0, 4, 1)", x.at(1, 0, 4, 1), 1);
        due("at(1, 1, 4, 0)", x.at(1, 1, 4, 0), 16);
        x.turned(0);
        due("at(1, 1, 4, 0) behind turned", x.at(1, 1, 4, 0), 16);
        due("at(1, 1, 4, 1)", x.at(1, 1, 4, 1), 3);
        x.sums();
        due("at(1, 1, 4, 1) behind sums", x.at(1, 1, 4, 1), 3);
        due("at(2, 1, 4, 0)", x.at(2, 1, 4, 0), 2);
        due("area(2, 1, 0)", x.area(2, 1, 0), 4);
        due("area(2, -1, 0)", x.area(2, -1, 0), 0);
        due("area(2, 1, 0) again", x.area(2, 1, 0), 4);
        x.settled(0, 6);
        due("move(2, 1, 1, 0)", x.move(2, 1, 1, 0), 6);
        x.settled(0, 8);
        due("move(2, 1, 1, 0) behind settled", x.move(2, 1, 1, 0), 8);
        due("move(2, 1, 2, 0)", x.move(2, 1, 2, 0), 4);
        due("move(2, 2, 1, 0)", x.move(2, 2, 1, 0), 16);
        due("move(0, 1, 1, 0)", x.move(0, 1, 1, 0), 8);
        due("move(1, 0, 1, 0)", x.move(1, 0, 1, 0), 0);
        due("move(0, 1, 1000, 0)", x.move(0, 1, 1000, 1), 125);
        due("move(0, 2, 1, 0)", x.move(0, 2, 1, 0), 16);
        due("move(0, 999, 1, 0)", x.move(0, 999, 1, 0), 7992);
        due("move(1, -1000, 1, 0)", x.move(1, -1000, 1, 0), 0);
        due("move(0, 3, 1, 0)", x.move(0, 3, 1, 0), 24);
        x.member(1, 1, 1);
        due("move(2, 1, 1, 0) behind member", x.move(2, 1, 1, 0), 4);
        x.support(2, 0, true);
        due("move(2, 1, 1, 0) behind support", x.move(2, 1, 1, 0), 0);
    }

    /** Every call sees a change by itself, be it the first one behind it. */
    private static void seenAtOnce() {
        promise = "promises 7 to 15, behind a change";
        for (int call = 0; call < 7; call++) {
            InfluenceRows x = made("S4x1S");
            x.row(2, 0, 2);
            due("call " + call, firstCall(x, call), true);
            x.support(1, 0, false);
            due("call " + call + ", loose", firstCall(x, call), false);
            x.support(1, 0, true);
            due("call " + call + ", held again", firstCall(x, call), true);
        }
        InfluenceRows x = new InfluenceRows();
        x.row(0, 0, 0);
        due("at(0, 0, 0, 1), the first value of all", x.at(0, 0, 0, 1), 1);
    }

    private static boolean firstCall(InfluenceRows x, int call) {
        switch (call) {
            case 0:
                return x.solve() == 0;
            case 1:
                return x.loose(0) == -1;
            case 2:
                return x.at(0, 0, 2, 0) == 4;
            case 3:
                return x.area(0, 1, -1) == 1;
            case 4:
                return x.turned(0);
            case 5:
                return x.sums();
            default:
                return x.move(0, 1, 1, 1) == 1;
        }
    }

    private static void sums() {
        promise = "promise 13";
        String[] texts = {"F1x1.", "S4x3S", "F7x3S5x2h.3x11S", "S12x12S11x11S10x10S", "T3x3S4x4hT2x5F", "F1x1h.h2x3F"};
        for (String text : texts) {
            InfluenceRows x = made(text);
            due("sums() of " + text, x.sums(), true);
            due("sums() again of " + text, x.sums(), true);
        }
        String[] loose = {"S1x1.", ".1x1.", "T1x1T", "Sh1x1h.h1x1hS"};
        for (String text : loose) {
            due("sums() of " + text, made(text).sums(), false);
        }
        InfluenceRows x = made("S4x1S");
        x.row(0, 0, 2);
        dueAt(x, 0, 0, 2, 1, 1);
        x.sums();
        dueAt(x, 0, 0, 2, 1, 1);
    }

    private static void settled() {
        promise = "promise 14";
        InfluenceRows x = made("S1x1.1x1S");
        due("settled(0, 1000)", x.settled(0, 1000), true);
        dueMove(x, 0, 1, 1, 1000, 1);
        due("settled(0, -1000)", x.settled(0, -1000), true);
        dueMove(x, 0, 1, 1, -1000, 1);
        long[] none = {1001, -1001, Long.MAX_VALUE, Long.MIN_VALUE, 4294967296L};
        for (long v : none) {
            due("settled(0, " + v + ")", x.settled(0, v), false);
        }
        int[] nodes = {1, 3, -1, Integer.MAX_VALUE, Integer.MIN_VALUE};
        for (int node : nodes) {
            due("settled(" + node + ", 5)", x.settled(node, 5), false);
        }
        dueMove(x, 0, 1, 1, -1000, 1);
        dueMove(x, 1, 1, 1, -500, 1);
        due("held in turning too", x.support(0, 1, true), false);
        due("that changes nothing", x.support(0, 1, false), true);
        dueMove(x, 0, 1, 1, -1000, 1);
        x.support(0, 0, true);
        dueMove(x, 0, 1, 1, -1000, 1);
        x.member(0, 3, 3);
        x.hinge(1, 1, true);
        dueMove(x, 0, 1, 1, -1000, 1);
        x.support(0, 0, false);
        x.support(0, 0, true);
        dueMove(x, 0, 1, 1, 0, 1);
        due("settled(0, 0)", x.settled(0, 0), true);
        InfluenceRows y = made("T1x1F");
        due("turning alone", y.settled(0, 1), false);
    }

    private static void move() {
        promise = "promise 15";
        InfluenceRows x = made("F1x1.1x1S");
        dueMove(x, 1, 5, 7, 0, 1);
        x.settled(2, 16);
        dueMove(x, 1, 1, 1, 5, 1);
        dueMove(x, 1, -3, 10, -3, 2);
        dueMove(x, 1, 0, 9, 0, 1);
        dueMove(x, 1, 1000, 1, 5000, 1);
        dueMove(x, 1, -1000, 1000, -5, 1);
        dueMove(x, 2, 1, 1000, 2, 125);
        dueMove(x, 0, 1, 1, 0, 1);
        x.settled(0, 16);
        dueMove(x, 1, 1, 1, 16, 1);
        x.settled(0, -8);
        dueMove(x, 1, 1, 1, -1, 2);
        InfluenceRows y = made("S2x3S1x1.");
        y.settled(0, 4);
        dueMove(y, 2, 1, 1, -2, 1);
        y.settled(1, 4);
        dueMove(y, 2, 1, 3, 4, 3);
        y.member(1, 4, 9);
        dueMove(y, 2, 1, 1, 4, 1);
        y.settled(1, 5);
        dueMove(y, 2, 1, 1, 7, 1);
        y.row(2, 1, 4);
        dueAt(y, 0, 0, 0, 0, 1);
    }

    private static void dueNoMove(String why, InfluenceRows x, int node, long above, long below) {
        due(why + ", sign", x.move(node, above, below, -1), -2);
        due(why + ", upper", x.move(node, above, below, 0), -1);
        due(why + ", no part", x.move(node, above, below, -2), -1);
    }

    private static void moveWrong() {
        promise = "promise 15";
        InfluenceRows x = made("S2x3S1x1.");
        x.settled(0, 4);
        int[] nodes = {-1, 3, Integer.MIN_VALUE, Integer.MAX_VALUE};
        for (int node : nodes) {
            dueNoMove("node " + node, x, node, 1, 1);
        }
        long[] aboves = {1001, -1001, Long.MIN_VALUE, Long.MAX_VALUE, 4294967297L};
        for (long above : aboves) {
            dueNoMove("above " + above, x, 0, above, 1);
        }
        long[] belows = {0, -1, 1001, Long.MIN_VALUE, Long.MAX_VALUE, 4294967297L};
        for (long below : belows) {
            dueNoMove("below " + below, x, 0, 1, below);
        }
        due("part -2", x.move(0, 1, 1, -2), -1);
        due("part MIN", x.move(0, 1, 1, Integer.MIN_VALUE), -1);
        due("part MAX", x.move(0, 1, 1, Integer.MAX_VALUE), 0);
        x.support(1, 0, false);
        dueNoMove("loose", x, 0, 1, 1);
        x.support(1, 0, true);
        dueMove(x, 0, 1, 1, 4, 1);
    }

    private static void count() {
        promise = "promise 16";
        InfluenceRows x = made("F12x1hS11x1Th7x7h.");
        int[] counts = {3, 0, 3, 2, 30};
        for (int what = 0; what < counts.length; what++) {
            due("count(" + what + ")", x.count(what), counts[what]);
        }
        x.row(0, 0, 0);
        x.hinge(0, 1, false);
        x.support(3, 0, true);
        x.member(2, 1, 1);
        int[] later = {3, 1, 2, 3, 24};
        for (int what = 0; what < later.length; what++) {
            due("count(" + what + ") later", x.count(what), later[what]);
        }
        int[] none = {-1, 5, Integer.MIN_VALUE, Integer.MAX_VALUE};
        for (int what : none) {
            due("count(" + what + ")", x.count(what), -1);
        }
    }
}
