/** Promises 14 to 16: supports that settle, moves without a load, and counts. */
final class SettlingBoundaries {
    private static final long[] TOO_FAR = {1001, -1001, 1_000_000, Calls.CUT_ONE, Calls.CUT_NOUGHT, -Calls.CUT_NOUGHT,
        Long.MIN_VALUE, Long.MIN_VALUE + 1, Long.MAX_VALUE};
    private static final int[] NO_NODES = {-1, 3, 4, 5, Calls.MIN, Calls.MAX};

    private SettlingBoundaries() {
    }

    static void run() {
        settled();
        noughtAtFirst();
        notHeldAnyMore();
        noneSuch();
        withoutALoad();
        timesAboveOverBelow();
        limitsOfTheFactor();
        moveByParts();
        noSuchMove();
        looseMove();
        beams();
        rows();
        hinges();
        held();
        length();
        anotherNumber();
    }

    private static void settled() {
        Sentences.promise(14, "A node that is held in height is settled by v, - 1,000 .. 1,000");
        InfluenceRows x = Calls.made("S1x1.1x1F");
        for (long v : new long[] {1000, -1000, 999, -999, 1, -1, 0}) {
            Sentences.due("settled(0, " + v + ")", x.settled(0, v), true);
            Sentences.due("node 0", Calls.move(x, 0, 1, 1), v + "/1");
            Sentences.due("settled(2, " + -v + ")", x.settled(2, -v), true);
            Sentences.due("node 2", Calls.move(x, 2, 1, 1), -v + "/1");
        }
        Sentences.due("settled(2, 5)", x.settled(2, 5), true);
        Sentences.due("the last one is good, not the sum", Calls.move(x, 2, 1, 1), "5/1");
    }

    private static void noughtAtFirst() {
        Sentences.promise(14, "(0 at first,");
        InfluenceRows x = Calls.made("S1x1.1x1F");
        for (int node = 0; node < 3; node++) {
            Sentences.due("node " + node, Calls.move(x, node, 1000, 1), "0/1");
        }
        x.support(1, 0, true);
        Sentences.due("held anew", Calls.move(x, 1, 1000, 1), "0/1");
        Sentences.due("a new object", Calls.move(new InfluenceRows(), 0, 1000, 1), "0/1");
    }

    private static void notHeldAnyMore() {
        Sentences.promise(14, "and when it is not held any more).");
        InfluenceRows x = Calls.made("S1x1S1x1S");
        x.settled(1, 1000);
        x.settled(0, 4);
        x.support(1, 0, true);
        x.support(1, 1, true);
        x.support(1, 1, false);
        Sentences.due("still held", Calls.move(x, 1, 1, 1), "1000/1");
        x.support(1, 0, false);
        Sentences.due("not held", Calls.move(x, 1, 1, 1), "2/1");
        x.support(1, 0, true);
        Sentences.due("held again", Calls.move(x, 1, 1, 1), "0/1");
        Sentences.due("the other one is settled still", Calls.move(x, 0, 1, 1), "4/1");
        Sentences.due("it can be settled anew", x.settled(1, -7), true);
        Sentences.due("by that", Calls.move(x, 1, 1, 1), "-7/1");
    }

    private static void noneSuch() {
        Sentences.promise(14, "False: none such.");
        for (int node : NO_NODES) {
            Calls.refused("settled(" + node + ", 1)", false, x -> x.settled(node, 1));
            Calls.refused("settled(" + node + ", 0)", false, x -> x.settled(node, 0));
        }
        Calls.refused("settled(1, 1), not held", false, x -> x.settled(1, 1));
        Calls.refused("settled(1, 0), not held", false, x -> x.settled(1, 0));
        Calls.refusedLoose("settled(2, 1), not held now", false, x -> x.settled(2, 1));
        for (long v : TOO_FAR) {
            Calls.refused("settled(0, " + v + ")", false, x -> x.settled(0, v));
            Calls.refused("settled(2, " + v + ")", false, x -> x.settled(2, v));
        }
        InfluenceRows turning = Calls.made("T1x1F");
        Sentences.due("held in turning alone", turning.settled(0, 1), false);
        turning.support(0, 0, true);
        Sentences.due("nothing was kept of it", Calls.move(turning, 0, 1, 1), "0/1");
        InfluenceRows loose = Calls.made("S1x1.");
        Sentences.due("a held node of a loose row", loose.settled(0, 8), true);
        loose.support(1, 0, true);
        Sentences.due("is settled", Calls.move(loose, 0, 1, 1), "8/1");
    }

    private static void withoutALoad() {
        Sentences.promise(15, "How far a node is down without a load when those that are settled are down by that,");
        InfluenceRows x = Calls.made("F1x1.1x1S");
        Sentences.due("nothing is settled", Calls.move(x, 1, 1, 1), "0/1");
        for (long v : new long[] {1, -1, 2, -2, 999, 1000, -1000, 0}) {
            x.settled(2, v);
            Sentences.due("the right end by " + v, Calls.move(x, 1, 1, 1), Fraction.of(5 * v, 16));
        }
        x.settled(2, 16);
        Sentences.due("the right end", Calls.move(x, 1, 1, 1), "5/1");
        x.settled(0, -16);
        Sentences.due("both ends", Calls.move(x, 1, 1, 1), "-6/1");
        Sentences.due("the left one itself", Calls.move(x, 0, 1, 1), "-16/1");
        x.hinge(0, 1, true);
        x.hinge(1, 1, true);
        Sentences.due("the first beam holds it by itself", x.solve(), 0);
        Sentences.due("it goes along with that", Calls.move(x, 1, 1, 1), "-16/1");
        InfluenceRows y = Calls.made("S2x3S4x1.");
        y.settled(0, 1000);
        Sentences.due("beyond the last support", Calls.move(y, 2, 1, 1), "-2000/1");
        y.settled(1, 1000);
        Sentences.due("all by the same", Calls.move(y, 2, 1, 1), "1000/1");
        y.row(3, 0, 0);
        Sentences.due("it has no part in the rows", Calls.at(y, 0, 0, 0), "1/1");
    }

    private static void timesAboveOverBelow() {
        Sentences.promise(15, "times above / below");
        InfluenceRows x = Calls.made("F1x1.1x1S");
        x.settled(2, 16);
        long[][] factors = {{1, 1}, {-1, 1}, {3, 10}, {-3, 10}, {0, 1}, {0, 1000}, {1000, 1}, {-1000, 1}, {1, 1000}, {1000, 1000},
            {-1000, 999}, {999, 1000}};
        for (long[] factor : factors) {
            String name = "times " + factor[0] + " / " + factor[1];
            Sentences.due(name, Calls.move(x, 1, factor[0], factor[1]), Fraction.of(5 * factor[0], factor[1]));
            Sentences.due(name + ", held", Calls.move(x, 2, factor[0], factor[1]), Fraction.of(16 * factor[0], factor[1]));
        }
    }

    private static void limitsOfTheFactor() {
        Sentences.promise(15, "(above - 1,000 .. 1,000, below 1 .. 1,000),");
        InfluenceRows x = Calls.made("S1x1S");
        x.settled(0, 1);
        Sentences.due("above 1000", Calls.move(x, 0, 1000, 1), "1000/1");
        Sentences.due("above 1001", Calls.move(x, 0, 1001, 1), "none");
        Sentences.due("above - 1000", Calls.move(x, 0, -1000, 1), "-1000/1");
        Sentences.due("above - 1001", Calls.move(x, 0, -1001, 1), "none");
        Sentences.due("above 0", Calls.move(x, 0, 0, 1), "0/1");
        Sentences.due("below 1", Calls.move(x, 0, 1, 1), "1/1");
        Sentences.due("below 0", Calls.move(x, 0, 1, 0), "none");
        Sentences.due("below - 1", Calls.move(x, 0, 1, -1), "none");
        Sentences.due("below 1000", Calls.move(x, 0, 1, 1000), "1/1000");
        Sentences.due("below 1001", Calls.move(x, 0, 1, 1001), "none");
    }

    private static void moveByParts() {
        Sentences.promise(15, "by parts.");
        InfluenceRows x = Calls.made("F1x1.1x1S");
        x.settled(2, -48);
        long[] want = {-1, 5000, 333, 0, 0, 0};
        for (int part = -1; part < 5; part++) {
            Sentences.due("part " + part, x.move(1, 1000, 999, part), want[part + 1]);
        }
        Sentences.due("the last part", x.move(1, 1000, 999, Calls.MAX), 0);
        Sentences.due("no part", x.move(1, 1000, 999, -2), -1);
    }

    private static void refusedMove(String name, int node, long above, long below) {
        Calls.refused("move(" + name + ", -1)", -2, x -> x.move(node, above, below, -1));
        for (int part : new int[] {0, 1, 2, Calls.MAX, -2, Calls.MIN}) {
            Calls.refused("move(" + name + ", " + part + ")", -1, x -> x.move(node, above, below, part));
        }
    }

    private static void noSuchMove() {
        Sentences.promise(15, "BAD (part - 1: NONE): none such;");
        for (int node : NO_NODES) {
            refusedMove("node " + node, node, 1, 1);
        }
        for (long number : TOO_FAR) {
            refusedMove("above " + number, 0, number, 1);
            refusedMove("below " + number, 0, 1, number);
        }
        refusedMove("below 0", 0, 1, 0);
        refusedMove("below 0, above 0", 1, 0, 0);
        refusedMove("below - 1", 2, 1, -1);
        refusedMove("below - 1000", 2, 1, -1000);
    }

    private static void looseMove() {
        Sentences.promise(15, "loose.");
        for (int node = 0; node < 3; node++) {
            int asked = node;
            Calls.refusedLoose("move(" + node + ", 1, 1, -1)", -2, x -> x.move(asked, 1, 1, -1));
            Calls.refusedLoose("move(" + node + ", 1, 1, 0)", -1, x -> x.move(asked, 1, 1, 0));
            Calls.refusedLoose("move(" + node + ", 0, 1, 1)", -1, x -> x.move(asked, 0, 1, 1));
            Calls.refusedLoose("move(" + node + ", 0, 1, -2)", -1, x -> x.move(asked, 0, 1, -2));
        }
        InfluenceRows x = Calls.made("F1x1Fh1x1.");
        x.settled(0, 3);
        Sentences.due("a held node of a loose row", Calls.move(x, 0, 1, 1), "none");
        x.support(2, 0, true);
        Sentences.due("not loose any more", Calls.move(x, 0, 1, 1), "3/1");
    }

    private static void beams() {
        Sentences.promise(16, "0 how many beams,");
        String[] texts = {"F1x1.", "F1x1.1x1.", "F1x1.1x1.1x1."};
        for (int i = 0; i < 3; i++) {
            Sentences.due("count(0) of " + texts[i], Calls.made(texts[i]).count(0), i + 1);
        }
        Sentences.due("a new one", new InfluenceRows().count(0), 1);
    }

    private static void rows() {
        Sentences.promise(16, "1 how many rows are told,");
        InfluenceRows x = Calls.made("S1x1S");
        Sentences.due("none", x.count(1), 0);
        for (int row = 0; row < 10; row++) {
            x.row(0, 0, 0);
            Sentences.due("behind row " + row, x.count(1), Math.min(row + 1, 8));
        }
        Calls.read(x, "S1x1");
        Sentences.due("behind a wrong text", x.count(1), 8);
        Calls.read(x, "S1x1S");
        Sentences.due("behind a right one", x.count(1), 0);
    }

    private static void hinges() {
        Sentences.promise(16, "2 hinges,");
        InfluenceRows x = Calls.made("F1x1F1x1F1x1F");
        Sentences.due("none", x.count(2), 0);
        for (int end = 0; end < 6; end++) {
            x.hinge(end / 2, end % 2, true);
            Sentences.due("behind end " + end, x.count(2), end + 1);
            x.hinge(end / 2, end % 2, true);
            Sentences.due("the same again", x.count(2), end + 1);
        }
        Calls.read(x, "F1x1F");
        Sentences.due("of another row", x.count(2), 0);
    }

    private static void held() {
        Sentences.promise(16, "3 nodes held in height,");
        InfluenceRows x = Calls.made(".1x1T1x1.1x1T");
        Sentences.due("none", x.count(3), 0);
        for (int node = 0; node < 4; node++) {
            x.support(node, 0, true);
            Sentences.due("behind node " + node, x.count(3), node + 1);
            x.support(node, 1, true);
            Sentences.due("in turning too", x.count(3), node + 1);
        }
        Calls.read(x, "S1x1F");
        Sentences.due("of another row", x.count(3), 2);
    }

    private static void length() {
        Sentences.promise(16, "4 the length of all beams.");
        Sentences.due("the least", Calls.made("F1x12.").count(4), 1);
        Sentences.due("the greatest", Calls.made("F12x1.12x1.12x1.").count(4), 36);
        InfluenceRows x = Calls.made("F12x1.3x1.");
        Sentences.due("two", x.count(4), 15);
        x.member(1, 12, 7);
        Sentences.due("behind member", x.count(4), 24);
        x.member(1, 13, 7);
        Sentences.due("behind a refused one", x.count(4), 24);
    }

    private static void anotherNumber() {
        Sentences.promise(16, "BAD: another number.");
        for (int what : new int[] {-1, 5, 6, Calls.MIN, Calls.MAX}) {
            Calls.refused("count(" + what + ")", -1, x -> x.count(what));
            Calls.refusedLoose("count(" + what + ")", -1, x -> x.count(what));
        }
    }
}
