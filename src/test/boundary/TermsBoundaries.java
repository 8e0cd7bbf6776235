import java.math.BigInteger;

/** The section "Terms": beams and places at their limits, and the equations at nodes, hinges and the row's two ends. */
final class TermsBoundaries {
    private TermsBoundaries() {
    }

    static void run() {
        nodesAndBeams();
        lengths();
        stiffnesses();
        allOrNothingHeld();
        places();
        shapeAndMoment();
        shearFallsAtTheLoad();
        oneMoveAtANode();
        oneTurnAtANode();
        noMomentAtAHinge();
        shearsAtFreeNodes();
        momentsAtFreeNodes();
        reactions();
        loadAtANode();
        loose();
        leastTerms();
        nought();
        signAndLowestDigits();
        nextDigits();
        beyondTheLast();
        belowMinusOne();
    }

    private static void nodesAndBeams() {
        Sentences.term("NODES 0 .. m lie in a row; BEAM k (of m, 1 .. 3) goes from node k to node k + 1,");
        String[] texts = {"F1x1.", "F1x1.2x1.", "F1x1.2x1.3x1."};
        for (int m = 1; m <= 3; m++) {
            InfluenceRows x = Calls.made(texts[m - 1]);
            Sentences.due("beams", x.count(0), m);
            Sentences.due("node m", Calls.answer(x, y -> y.support(y.count(0), 0, false)), false);
            Sentences.due("node m + 1", Calls.answer(x, y -> y.support(y.count(0) + 1, 0, false)), Calls.THROWS);
            Sentences.due("node - 1", Calls.answer(x, y -> y.support(-1, 0, false)), Calls.THROWS);
            Sentences.due("beam m - 1", Calls.answer(x, y -> y.hinge(y.count(0) - 1, 1, false)), false);
            Sentences.due("beam m", Calls.answer(x, y -> y.hinge(y.count(0), 1, false)), Calls.THROWS);
            Sentences.due("beam - 1", Calls.answer(x, y -> y.hinge(-1, 1, false)), Calls.THROWS);
        }
        InfluenceRows x = Calls.made("S1x1.2x1.3x1S");
        x.row(3, 3, 0);
        int[] behind = {0, 1, 3};
        for (int beam = 0; beam < 3; beam++) {
            String left = Fraction.of(behind[beam], 6).toString();
            String right = Fraction.of(behind[beam] + beam + 1, 6).toString();
            Sentences.due("left end of beam " + beam, Calls.at(x, 0, beam, 0), left);
            Sentences.due("right end of beam " + beam, Calls.at(x, 0, beam, 4), right);
        }
    }

    private static void lengths() {
        Sentences.term("with a LENGTH L 1 .. 12");
        Sentences.due("1", Calls.read(new InfluenceRows(), "F1x1."), 1);
        Sentences.due("12", Calls.read(new InfluenceRows(), "F12x1."), 1);
        Sentences.due("0", Calls.read(new InfluenceRows(), "F0x1."), -2);
        Sentences.due("13", Calls.read(new InfluenceRows(), "F13x1."), -2);
        InfluenceRows x = Calls.made("F12x1.");
        x.row(2, 0, 4);
        Sentences.due("move of a tip twelve away", Calls.at(x, 0, 0, 4), "576/1");
        Sentences.due("member 0", x.member(0, 0, 1), false);
        Sentences.due("member 1", x.member(0, 1, 1), true);
        Sentences.due("move of a tip one away", Calls.at(x, 0, 0, 4), "1/3");
        Sentences.due("member 13", x.member(0, 13, 1), false);
        Sentences.due("member 12", x.member(0, 12, 1), true);
        Sentences.due("length", x.count(4), 12);
    }

    private static void stiffnesses() {
        Sentences.term("and a STIFFNESS E 1 .. 12.");
        Sentences.due("1", Calls.read(new InfluenceRows(), "F1x1."), 1);
        Sentences.due("12", Calls.read(new InfluenceRows(), "F1x12."), 1);
        Sentences.due("0", Calls.read(new InfluenceRows(), "F1x0."), -4);
        Sentences.due("13", Calls.read(new InfluenceRows(), "F1x13."), -4);
        InfluenceRows x = Calls.made("F1x12.");
        x.row(2, 0, 4);
        Sentences.due("move of a stiff tip", Calls.at(x, 0, 0, 4), "1/36");
        Sentences.due("member 0", x.member(0, 1, 0), false);
        Sentences.due("member 1", x.member(0, 1, 1), true);
        Sentences.due("move of a weak tip", Calls.at(x, 0, 0, 4), "1/3");
        Sentences.due("member 13", x.member(0, 1, 13), false);
        Sentences.due("member 12", x.member(0, 1, 12), true);
        Sentences.due("move of a stiff tip again", Calls.at(x, 0, 0, 4), "1/36");
    }

    private static void allOrNothingHeld() {
        Sentences.term("A node may be held in HEIGHT, and in TURNING; an end of a beam may have a HINGE.");
        InfluenceRows full = Calls.made("Fh1x1hFh1x1hFh1x1hF");
        Sentences.due("all hinges", full.count(2), 6);
        Sentences.due("all held", full.count(3), 4);
        Sentences.due("not loose", full.solve(), 0);
        full.row(0, 1, 2);
        Sentences.due("a beam by itself", Calls.along(full, 0, 1), "0/1 1/8 1/4 1/8 0/1");
        Sentences.due("does not feel the next", Calls.along(full, 0, 2), "0/1 0/1 0/1 0/1 0/1");
        InfluenceRows bare = Calls.made(".1x1.1x1.1x1.");
        Sentences.due("no hinge", bare.count(2), 0);
        Sentences.due("none held", bare.count(3), 0);
        Sentences.due("loose", bare.solve(), 4);
    }

    private static void places() {
        Sentences.term("PLACES of a beam are 0 .. 4: so many quarters of its length behind its left end. "
            + "A LOAD of one stands at a place of a beam.");
        InfluenceRows x = Calls.made("S12x1S");
        x.row(0, 0, 1);
        Sentences.due("moment a quarter away", Calls.along(x, 0, 0), "0/1 9/4 3/2 3/4 0/1");
        Sentences.due("load at place - 1", Calls.at(x, 0, 0, -1), "none");
        Sentences.due("load at place 5", Calls.at(x, 0, 0, 5), "none");
        Sentences.due("row of place - 1", x.row(0, 0, -1), -1);
        Sentences.due("row of place 5", x.row(0, 0, 5), -1);
        Sentences.due("row of place 0", x.row(3, 0, 0), 1);
        Sentences.due("row of place 4", x.row(0, 0, 4), 2);
        Sentences.due("reaction at the left", Calls.along(x, 1, 0), "1/1 3/4 1/2 1/4 0/1");
    }

    /** w is cubic between loads, so second differences are its second derivative. */
    private static void shapeAndMoment() {
        Sentences.term("A beam takes from x = 0 to L a shape w (how far down), "
            + "whose fourth derivative is 0 but at the load; MOMENT is - E w'',");
        String[] texts = {"S3x5S7x11F2x3.", ".6x7S4x5T", "F5x2h.h3x4.2x2S"};
        long[][] sizes = {{7, 11}, {4, 5}, {3, 4}};
        for (int i = 0; i < texts.length; i++) {
            InfluenceRows x = Calls.made(texts[i]);
            for (int place = 0; place <= 4; place++) {
                x.row(2, 1, place);
            }
            for (int place = 1; place <= 3; place++) {
                x.row(0, 1, place);
            }
            int load = i == 2 ? 2 : 3;
            Fraction step = Fraction.of(sizes[i][0] * sizes[i][0], 16);
            for (int place = 1; place <= 3; place++) {
                Fraction bend = Calls.valueAt(x, place - 1, 0, load).plus(Calls.valueAt(x, place + 1, 0, load))
                    .minus(Calls.valueAt(x, place, 0, load).times(2)).over(step);
                Sentences.due(texts[i] + ", moment at place " + place, Calls.at(x, 4 + place, 0, load),
                    bend.times(-sizes[i][1]));
            }
            Fraction fourth = Calls.valueAt(x, 0, 0, load).minus(Calls.valueAt(x, 1, 0, load).times(4))
                .plus(Calls.valueAt(x, 2, 0, load).times(6)).minus(Calls.valueAt(x, 3, 0, load).times(4))
                .plus(Calls.valueAt(x, 4, 0, load));
            Sentences.due(texts[i] + ", fourth difference", fourth, "0/1");
        }
        InfluenceRows tip = Calls.made("F2x1.");
        tip.row(2, 0, 4);
        tip.row(0, 0, 0);
        Sentences.due("down is above 0", Calls.at(tip, 0, 0, 4), "8/3");
        Sentences.due("bent up at the foot", Calls.at(tip, 1, 0, 4), "-2/1");
    }

    private static void shearFallsAtTheLoad() {
        Sentences.term("SHEAR the derivative of the moment, which falls by one at the load; "
            + "w and w' are without jumps within it.");
        for (int load = 1; load <= 3; load++) {
            InfluenceRows moments = Calls.made("F3x5S7x11S2x3.");
            InfluenceRows shears = Calls.made("F3x5S7x11S2x3.");
            for (int place = 0; place <= 4; place++) {
                moments.row(0, 1, place);
                shears.row(1, 1, place);
            }
            for (int place = 0; place <= 3; place++) {
                Fraction rise = Calls.valueAt(moments, place + 1, 1, load)
                    .minus(Calls.valueAt(moments, place, 1, load)).times(Fraction.of(4, 7));
                int seen = place < load ? place : place + 1;
                Sentences.due("shear at place " + seen + ", load at " + load, Calls.at(shears, seen, 1, load), rise);
            }
            Fraction before = Calls.valueAt(shears, load, 1, load);
            Fraction behind = Calls.valueAt(shears, load + 1, 1, load);
            Sentences.due("fall at the load", before.minus(behind), "1/1");
        }
        InfluenceRows tip = Calls.made("F4x1.");
        for (int place = 1; place <= 4; place++) {
            tip.row(2, 0, place);
        }
        Sentences.due("bent up to the load", Calls.at(tip, 0, 0, 1), "1/3");
        for (int place = 2; place <= 4; place++) {
            Fraction behind = Fraction.of(1, 3).plus(Fraction.of(place - 1, 2));
            Sentences.due("straight on behind it, place " + place, Calls.at(tip, place - 1, 0, 1), behind);
        }
    }

    private static void oneMoveAtANode() {
        Sentences.term("At a node all beams have the node's move, 0 if it is held in height;");
        String[] texts = {"F3x5.7x11S", "F3x5h.h7x11F", "S2x1S5x3S", "F2x1hTh5x3F"};
        for (String text : texts) {
            InfluenceRows x = Calls.made(text);
            x.row(2, 0, 4);
            x.row(2, 1, 0);
            boolean held = x.support(1, 0, false);
            x.support(1, 0, held);
            for (int load = 0; load <= 4; load++) {
                String left = Calls.at(x, 0, 1, load);
                Sentences.due(text + ", load at " + load, Calls.at(x, 1, 1, load), left);
                Sentences.due(text + ", moves", left.equals("0/1"), held || load == 4);
            }
        }
        InfluenceRows ends = Calls.made("S2x1S5x3S");
        ends.row(2, 0, 0);
        ends.row(2, 1, 4);
        Sentences.due("the first node", Calls.along(ends, 0, 0), "0/1 0/1 0/1 0/1 0/1");
        Sentences.due("the last node", Calls.along(ends, 1, 1), "0/1 0/1 0/1 0/1 0/1");
    }

    /** The turn at a beam's end from four values of its cubic shape, times six quarters of its length. */
    private static Fraction turn(InfluenceRows x, int[] rows, int beam, int place) {
        int[] factor = {-11, 18, -9, 2};
        Fraction sum = Fraction.NOUGHT;
        for (int i = 0; i < 4; i++) {
            sum = sum.plus(Calls.valueAt(x, rows[i], beam, place).times(factor[i]));
        }
        return sum;
    }

    private static InfluenceRows withMovesAroundNodeOne(String text) {
        InfluenceRows x = Calls.made(text);
        for (int i = 0; i < 4; i++) {
            x.row(2, 0, 4 - i);
            x.row(2, 1, i);
        }
        return x;
    }

    private static void oneTurnAtANode() {
        Sentences.term("ends without a hinge have the node's turn w', 0 if it is held in turning;");
        int[] left = {0, 2, 4, 6};
        int[] right = {1, 3, 5, 7};
        String[] texts = {"F3x5.7x11.2x2S", "F3x5S7x11.2x2S", "F3x5T7x11.2x2S", "F3x5hT7x11.2x2S", "F3x5h.7x11.2x2S"};
        boolean[] same = {true, true, true, false, false};
        boolean[] still = {false, false, true, true, false};
        for (int i = 0; i < texts.length; i++) {
            InfluenceRows x = withMovesAroundNodeOne(texts[i]);
            Fraction before = turn(x, left, 2, 1).times(Fraction.of(-4, 6 * 3));
            Fraction behind = turn(x, right, 2, 1).times(Fraction.of(4, 6 * 7));
            Sentences.due(texts[i] + ", the same turn", before.equals(behind), same[i]);
            Sentences.due(texts[i] + ", no turn", behind.sign() == 0, still[i]);
        }
    }

    private static void noMomentAtAHinge() {
        Sentences.term("at a hinge the moment is 0.");
        InfluenceRows x = Calls.made("F3x5hFh7x11hF");
        x.row(0, 0, 4);
        x.row(0, 1, 0);
        x.row(0, 1, 4);
        x.row(0, 0, 0);
        for (int row = 0; row < 3; row++) {
            Sentences.due("row " + row, Calls.along(x, row, row == 0 ? 0 : 1), "0/1 0/1 0/1 0/1 0/1");
        }
        Sentences.due("no hinge, though", Calls.at(x, 3, 0, 2), "-9/16");
    }

    private static void shearsAtFreeNodes() {
        Sentences.term("At a node that is not held in height the shear to the right (0 behind the last beam) "
            + "is that to the left (0 before the first one), less one if a load stands at it;");
        InfluenceRows last = Calls.made("F4x3S4x3.");
        last.row(1, 1, 4);
        Sentences.due("behind the last is 0", Calls.along(last, 0, 1), "0/1 0/1 0/1 0/1 1/1");
        InfluenceRows first = Calls.made(".4x3S4x3F");
        first.row(1, 0, 0);
        Sentences.due("before the first is 0", Calls.along(first, 0, 0), "-1/1 0/1 0/1 0/1 0/1");
        String[] texts = {"F3x5.7x11S", "F3x5h.h7x11F", "F3x5T7x11F"};
        for (String text : texts) {
            InfluenceRows x = Calls.made(text);
            x.row(1, 0, 4);
            x.row(1, 1, 0);
            for (int beam = 0; beam < 2; beam++) {
                for (int place = 0; place <= 4; place++) {
                    boolean there = beam == 0 ? place == 4 : place == 0;
                    Fraction left = Calls.valueAt(x, 0, beam, place);
                    Sentences.due(text + ", load at " + beam + " " + place, Calls.at(x, 1, beam, place),
                        there ? left.minus(Fraction.ONE) : left);
                }
            }
        }
    }

    private static void momentsAtFreeNodes() {
        Sentences.term("at one that is not held in turning the moments to the left and right of it "
            + "(0 where there is no beam, or at a hinge) are the same.");
        InfluenceRows ends = Calls.made("S3x5S7x11S");
        ends.row(0, 0, 0);
        ends.row(0, 1, 4);
        for (int row = 0; row < 2; row++) {
            Sentences.due("no beam beside, row " + row, Calls.along(ends, row, row), "0/1 0/1 0/1 0/1 0/1");
        }
        String[] texts = {"F3x5.7x11F", "F3x5S7x11F", "F3x5hS7x11F", "F3x5.h7x11F", "F3x5T7x11F"};
        boolean[] same = {true, true, true, true, false};
        boolean[] none = {false, false, true, true, false};
        for (int i = 0; i < texts.length; i++) {
            InfluenceRows x = Calls.made(texts[i]);
            x.row(0, 0, 4);
            x.row(0, 1, 0);
            String left = Calls.at(x, 0, 1, 2);
            String right = Calls.at(x, 1, 1, 2);
            Sentences.due(texts[i] + ", the same", left.equals(right), same[i]);
            Sentences.due(texts[i] + ", none", right.equals("0/1"), none[i]);
        }
    }

    private static void reactions() {
        Sentences.term("A REACTION of a node held in height is the shear to the right, less the one to the left, "
            + "and one more if a load stands at it.");
        InfluenceRows x = Calls.made("S3x5F7x11S");
        int[] rows = {x.row(3, 0, 0), x.row(3, 1, 0), x.row(3, 2, 0)};
        int[] shears = {x.row(1, 0, 0), x.row(1, 0, 4), x.row(1, 1, 0), x.row(1, 1, 4)};
        int[][] loads = {{0, 0}, {0, 4}, {1, 0}, {1, 4}, {1, 1}};
        int[] nodes = {0, 1, 1, 2, -1};
        for (int i = 0; i < loads.length; i++) {
            for (int node = 0; node < 3; node++) {
                Fraction right = node < 2 ? Calls.valueAt(x, shears[2 * node], loads[i][0], loads[i][1]) : Fraction.NOUGHT;
                Fraction left = node > 0 ? Calls.valueAt(x, shears[2 * node - 1], loads[i][0], loads[i][1]) : Fraction.NOUGHT;
                Fraction more = nodes[i] == node ? Fraction.ONE : Fraction.NOUGHT;
                Sentences.due("node " + node + ", load " + i, Calls.at(x, rows[node], loads[i][0], loads[i][1]),
                    right.minus(left).plus(more));
            }
        }
        Sentences.due("it carries what stands on it", Calls.at(x, rows[1], 0, 4), "1/1");
    }

    private static void loadAtANode() {
        Sentences.term("(A load at place 0 or 4 stands at the node, and has no part in the shears of the beam's ends, "
            + "so far as these are told.)");
        InfluenceRows x = Calls.made("F3x5.7x11S");
        for (int what = 0; what < 3; what++) {
            x.row(what, 0, 4);
            x.row(what, 1, 0);
        }
        for (int row = 0; row < 6; row++) {
            Sentences.due("row " + row + ", both are the node", Calls.at(x, row, 1, 0), Calls.at(x, row, 0, 4));
        }
        InfluenceRows held = Calls.made("S4x1S");
        held.row(1, 0, 0);
        held.row(1, 0, 4);
        for (int row = 0; row < 2; row++) {
            Sentences.due("load at place 0, row " + row, Calls.at(held, row, 0, 0), "0/1");
            Sentences.due("load at place 4, row " + row, Calls.at(held, row, 0, 4), "0/1");
        }
    }

    private static void loose() {
        Sentences.term("The row is LOOSE, if it can move without any load; nodes are loose that can move or turn then "
            + "(for turning: of ends without a hinge).");
        String[] texts = {"S1x1.", "T1x1T", "Sh1x1h.h1x1hS", "S1x1h.h1x1S", "Fh1x1hF", "F1x1hS1x1.", ".1x1hF", "S1x1hFh1x1."};
        String[] nodes = {"0 1", "0 1", "1", "0 1 2", "", "1 2", "0", "2"};
        for (int i = 0; i < texts.length; i++) {
            InfluenceRows x = Calls.made(texts[i]);
            StringBuilder found = new StringBuilder();
            for (int k = 0; k < x.solve(); k++) {
                found.append(k > 0 ? " " : "").append(x.loose(k));
            }
            Sentences.due(texts[i], found, nodes[i]);
        }
    }

    private static void leastTerms() {
        Sentences.term("FRACTIONS are told in least terms");
        InfluenceRows x = Calls.made("S12x12S6x6S");
        for (int what = 0; what < 4; what++) {
            x.row(what, 1, what == 3 ? 0 : 2);
        }
        x.settled(1, 1000);
        for (int place = 0; place <= 4; place++) {
            for (int row = 0; row < 4; row++) {
                isLeast("at of row " + row, Calls.at(x, row, 1, place));
            }
        }
        isLeast("area", Calls.area(x, 0, 1));
        isLeast("area below", Calls.area(x, 1, -1));
        Sentences.due("move", Calls.move(x, 1, 1000, 1000), "1000/1");
        Sentences.due("move", Calls.move(x, 1, 6, 1000), "6/1");
        Sentences.due("move", Calls.move(x, 1, -1, 999), "-1000/999");
    }

    private static void isLeast(String name, String told) {
        int line = told.indexOf('/');
        BigInteger upper = new BigInteger(told.substring(0, line));
        BigInteger lower = new BigInteger(told.substring(line + 1));
        Sentences.due(name + ", common divisor of " + told, upper.gcd(lower), 1);
        Sentences.due(name + ", lower part above 0", lower.signum(), 1);
    }

    private static void nought() {
        Sentences.term("(0 as 0 / 1)");
        InfluenceRows x = Calls.made("S4x3S");
        x.row(0, 0, 2);
        long[] want = {0, 0, 1, 0, 0};
        for (int part = -1; part < 4; part++) {
            Sentences.due("at, part " + part, x.at(0, 0, 0, part), want[part + 1]);
            Sentences.due("area, part " + part, x.area(0, -1, part), want[part + 1]);
            Sentences.due("move, part " + part, x.move(0, 999, 1000, part), want[part + 1]);
        }
        x.settled(0, 1000);
        for (int part = -1; part < 4; part++) {
            Sentences.due("move times 0, part " + part, x.move(0, 0, 1000, part), want[part + 1]);
        }
    }

    private static void signAndLowestDigits() {
        Sentences.term("by PARTS (- 1 and above): - 1 the sign, 0 and 1 the lowest eighteen digits of the upper "
            + "and of the lower part, without sign,");
        InfluenceRows x = Calls.made("F4x1F");
        x.row(0, 0, 0);
        x.row(1, 0, 0);
        x.settled(0, -7);
        long[] below = {-1, 9, 16};
        long[] above = {1, 27, 32};
        long[] moved = {-1, 21, 2};
        for (int part = -1; part < 2; part++) {
            Sentences.due("below 0, part " + part, x.at(0, 0, 1, part), below[part + 1]);
            Sentences.due("above 0, part " + part, x.at(1, 0, 1, part), above[part + 1]);
            Sentences.due("a node that is up, part " + part, x.move(0, 3, 2, part), moved[part + 1]);
        }
        Sentences.due("an area below 0, sign", x.area(0, -1, -1), 1);
    }

    private static void nextDigits() {
        Sentences.term("2 and 3 the next eighteen, and so on");
        InfluenceRows x = Calls.made("S11x3S12x5.7x11F");
        x.row(1, 0, 3);
        long[] below = {836343303050623731L, 726875797400208256L, 229, 68, 0, 0};
        for (int part = 0; part < 6; part++) {
            Sentences.due("both go on, part " + part, x.area(0, -1, part), below[part]);
        }
        InfluenceRows y = Calls.made("S10x12S11x12.9x5F");
        y.row(1, 0, 2);
        long[] above = {52125422546169585L, 792627631049710176L, 1, 0, 0, 0};
        for (int part = 0; part < 6; part++) {
            Sentences.due("the upper one goes on, part " + part, y.area(0, 1, part), above[part]);
        }
        Sentences.due("as its values say", Calls.area(y, 0, 1), areaOf(y, 0, 1, new int[] {10, 11, 9}));
        Sentences.due("as its values say, below", Calls.area(y, 0, -1), areaOf(y, 0, -1, new int[] {10, 11, 9}));
        longestFraction();
    }

    /** The longest that a search over rows of three beams has found: twenty-seven digits over twenty-five. */
    private static void longestFraction() {
        InfluenceRows x = Calls.made("F11x10.12x11.11x9F");
        x.row(0, 0, 1);
        long[] longest = {1, 742057563700123929L, 510371710401893888L, 100452950, 1894799, 0, 0};
        for (int part = -1; part < 6; part++) {
            Sentences.due("the longest, part " + part, x.area(0, -1, part), longest[part + 1]);
        }
        Sentences.due("the longest, as its values say", Calls.area(x, 0, -1), areaOf(x, 0, -1, new int[] {11, 12, 11}));
    }

    private static void beyondTheLast() {
        Sentences.term("(0 beyond the last;");
        InfluenceRows x = Calls.made("S11x3S12x5.7x11F");
        x.row(1, 0, 3);
        x.settled(0, 3);
        int[] parts = {4, 5, 6, 7, 100, 101, Calls.MAX - 1, Calls.MAX};
        for (int part : parts) {
            Sentences.due("area, part " + part, x.area(0, -1, part), 0);
            Sentences.due("at, part " + part, x.at(0, 0, 1, part), 0);
            Sentences.due("move, part " + part, x.move(0, 1, 2, part), 0);
        }
        Sentences.due("at, part 2", x.at(0, 0, 1, 2), 0);
        Sentences.due("move, part 3", x.move(0, 1, 2, 3), 0);
    }

    private static void belowMinusOne() {
        Sentences.term("a part below - 1 is none).");
        int[] parts = {-2, -3, -4, -1000, Calls.MIN + 1, Calls.MIN};
        for (int part : parts) {
            Calls.refused("at, part " + part, -1, x -> x.at(0, 0, 2, part));
            Calls.refused("area, part " + part, -1, x -> x.area(0, 1, part));
            Calls.refused("move, part " + part, -1, x -> x.move(2, 1, 1, part));
        }
    }

    /** What the values themselves say of the area on one side of 0. */
    static Fraction areaOf(InfluenceRows x, int row, int side, int[] lengths) {
        Fraction sum = Fraction.NOUGHT;
        for (int beam = 0; beam < lengths.length; beam++) {
            Fraction before = Fraction.NOUGHT;
            for (int place = 0; place <= 4; place++) {
                Fraction now = Calls.valueAt(x, row, beam, place).times(side);
                if (place > 0) {
                    sum = sum.plus(strip(before, now).times(Fraction.of(lengths[beam], 4)));
                }
                before = now;
            }
        }
        return sum;
    }

    /** The area above 0 under a straight line over a length of one. */
    private static Fraction strip(Fraction from, Fraction to) {
        if (from.sign() >= 0 && to.sign() >= 0) {
            return from.plus(to).times(Fraction.of(1, 2));
        }
        if (from.sign() <= 0 && to.sign() <= 0) {
            return Fraction.NOUGHT;
        }
        Fraction above = from.sign() > 0 ? from : to;
        Fraction below = from.sign() > 0 ? to : from;
        return above.times(above).over(above.minus(below).times(2));
    }
}
