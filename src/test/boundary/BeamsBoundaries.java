/** Promises 4 to 8: beams, supports, hinges, and what is loose. */
final class BeamsBoundaries {
    private static final int[] NO_BEAMS = {-1, 2, 3, 4, Calls.MIN, Calls.MAX};
    private static final int[] NO_NODES = {-1, 3, 4, 5, Calls.MIN, Calls.MAX};
    private static final int[] OTHERS = {-1, 2, 3, Calls.MIN, Calls.MAX};

    private BeamsBoundaries() {
    }

    static void run() {
        anotherLength();
        rowsAndSettledStay();
        noSuchNumbers();
        noSuchBeam();
        beforeAllElse();
        height();
        turning();
        soBefore();
        anotherAxis();
        hinges();
        hadOne();
        anotherEnd();
        notLoose();
        howManyLoose();
        looseNodes();
        asItIsNow();
        noLooseNode();
    }

    private static void anotherLength() {
        Sentences.promise(4, "A beam gets another length and stiffness");
        InfluenceRows x = Calls.made("S1x1Sh2x3hS");
        x.row(2, 0, 2);
        x.hinge(0, 1, true);
        long[][] sizes = {{12, 12}, {1, 12}, {12, 1}, {1, 1}};
        for (long[] size : sizes) {
            Sentences.due("member(0, " + size[0] + ", " + size[1] + ")", x.member(0, size[0], size[1]), true);
            Sentences.due("length", x.count(4), size[0] + 2);
            Fraction move = Fraction.of(size[0] * size[0] * size[0], 48 * size[1]);
            Sentences.due("move", Calls.at(x, 0, 0, 2), move);
        }
        Sentences.due("the last beam", x.member(1, 12, 12), true);
        Sentences.due("length", x.count(4), 13);
        Sentences.due("hinges stay", x.count(2), 3);
        Sentences.due("held stay", x.count(3), 3);
    }

    private static void rowsAndSettledStay() {
        Sentences.promise(4, "(rows that are told, and what is settled, stay, here and below).");
        InfluenceRows x = Calls.usual();
        for (int change = 0; change < 4; change++) {
            switch (change) {
                case 0:
                    x.member(0, 12, 1);
                    x.member(1, 1, 12);
                    break;
                case 1:
                    x.support(1, 0, true);
                    x.support(1, 1, true);
                    break;
                case 2:
                    x.hinge(0, 0, true);
                    x.hinge(1, 1, false);
                    break;
                default:
                    x.support(0, 1, false);
                    x.support(0, 0, true);
                    break;
            }
            Sentences.due("rows behind change " + change, x.count(1), 3);
            Sentences.due("first node behind change " + change, Calls.move(x, 0, 1, 1), "-3/1");
            Sentences.due("last node behind change " + change, Calls.move(x, 2, 1, 1), "7/1");
        }
        x.settled(1, 5);
        x.support(1, 0, true);
        x.support(1, 1, false);
        Sentences.due("held again in what held it", Calls.move(x, 1, 1, 1), "5/1");
        Sentences.due("the reaction is still row 2", Calls.at(x, 2, 1, 4), "1/1");
    }

    private static void noSuchNumbers() {
        Sentences.promise(4, "False: no such numbers.");
        long[] none = {0, 13, -1, -12, 100, Calls.CUT_ONE, Calls.CUT_NOUGHT, (1L << 32) + 12, Long.MIN_VALUE, Long.MIN_VALUE + 1,
            Long.MAX_VALUE};
        for (long number : none) {
            Calls.refused("member(0, " + number + ", 5)", false, x -> x.member(0, number, 5));
            Calls.refused("member(0, 4, " + number + ")", false, x -> x.member(0, 4, number));
            Calls.refused("member(1, 12, " + number + ")", false, x -> x.member(1, 12, number));
            Calls.refused("member(1, " + number + ", 12)", false, x -> x.member(1, number, 12));
        }
    }

    private static void noSuchBeam() {
        Sentences.promise(4, "A beam that there is not throws,");
        for (int k : NO_BEAMS) {
            Calls.refused("member(" + k + ", 1, 1)", Calls.THROWS, x -> x.member(k, 1, 1));
            Calls.refused("hinge(" + k + ", 0, true)", Calls.THROWS, x -> x.hinge(k, 0, true));
            Calls.refused("hinge(" + k + ", 1, false)", Calls.THROWS, x -> x.hinge(k, 1, false));
            Calls.refusedLoose("member(" + k + ", 1, 1)", Calls.THROWS, x -> x.member(k, 1, 1));
        }
        for (int node : NO_NODES) {
            Calls.refused("support(" + node + ", 0, true)", Calls.THROWS, x -> x.support(node, 0, true));
            Calls.refused("support(" + node + ", 1, false)", Calls.THROWS, x -> x.support(node, 1, false));
        }
        InfluenceRows x = Calls.made("S1x1S1x1S1x1S");
        Sentences.due("beam 2 of three", Calls.answer(x, y -> y.member(2, 12, 12)), true);
        Sentences.due("beam 3 of three", Calls.answer(x, y -> y.member(3, 12, 12)), Calls.THROWS);
        Calls.read(x, "S1x1S");
        Sentences.due("beam 1 that was", Calls.answer(x, y -> y.member(1, 12, 12)), Calls.THROWS);
        Sentences.due("node 2 that was", Calls.answer(x, y -> y.support(2, 0, true)), Calls.THROWS);
        Sentences.due("node 1", Calls.answer(x, y -> y.support(1, 0, true)), true);
    }

    private static void beforeAllElse() {
        Sentences.promise(4, "before all else (so below).");
        for (int k : NO_BEAMS) {
            Calls.refused("member(" + k + ", 0, 1)", Calls.THROWS, x -> x.member(k, 0, 1));
            Calls.refused("member(" + k + ", 1, 13)", Calls.THROWS, x -> x.member(k, 1, 13));
            Calls.refused("hinge(" + k + ", 2, true)", Calls.THROWS, x -> x.hinge(k, 2, true));
            Calls.refused("hinge(" + k + ", -1, true)", Calls.THROWS, x -> x.hinge(k, -1, true));
        }
        for (int node : NO_NODES) {
            Calls.refused("support(" + node + ", 2, true)", Calls.THROWS, x -> x.support(node, 2, true));
            Calls.refused("support(" + node + ", -1, true)", Calls.THROWS, x -> x.support(node, -1, true));
        }
    }

    private static void height() {
        Sentences.promise(5, "A node is held (or not) in height (axis 0),");
        InfluenceRows x = Calls.made("F1x1.1x1.");
        int[] order = {1, 2};
        for (int node : order) {
            x.support(node, 0, true);
            Sentences.due("held behind node " + node, x.count(3), node + 1);
            Sentences.due("a reaction of node " + node, x.row(3, node, 0), node - 1);
        }
        Sentences.due("the last one carries what stands on it", Calls.at(x, 1, 1, 4), "1/1");
        x.support(0, 0, false);
        Sentences.due("the first is not", x.row(3, 0, 0), -1);
        Sentences.due("held in turning all the same", x.support(0, 1, true), true);
        for (int node = 1; node < 3; node++) {
            x.support(node, 0, false);
        }
        Sentences.due("none is held", x.count(3), 0);
        Sentences.due("loose", x.solve(), 3);
    }

    private static void turning() {
        Sentences.promise(5, "in turning (1):");
        InfluenceRows x = Calls.made("S4x1S");
        x.row(0, 0, 0);
        x.row(0, 0, 4);
        Sentences.due("free to turn", Calls.at(x, 0, 0, 2), "0/1");
        x.support(0, 1, true);
        Sentences.due("held at the left", Calls.at(x, 0, 0, 2), "-3/4");
        x.support(1, 1, true);
        Sentences.due("held at both", Calls.at(x, 0, 0, 2), "-1/2");
        x.support(0, 1, false);
        Sentences.due("held at the right", Calls.at(x, 1, 0, 2), "-3/4");
        Sentences.due("that is no height", x.count(3), 2);
        x.support(1, 0, false);
        Sentences.due("not held in height, not loose", x.solve(), 0);
    }

    private static void soBefore() {
        Sentences.promise(5, "whether it was so before.");
        for (int node = 0; node < 3; node++) {
            for (int axis = 0; axis < 2; axis++) {
                InfluenceRows x = Calls.made(".1x1.1x1.");
                String name = "support(" + node + ", " + axis + ", ";
                Sentences.due(name + "false), was not", x.support(node, axis, false), false);
                Sentences.due(name + "true), was not", x.support(node, axis, true), false);
                Sentences.due(name + "true), was", x.support(node, axis, true), true);
                Sentences.due(name + "false), was", x.support(node, axis, false), true);
                Sentences.due(name + "false), is not any more", x.support(node, axis, false), false);
                Sentences.due("the other axis of node " + node, x.support(node, 1 - axis, true), false);
            }
        }
    }

    private static void anotherAxis() {
        Sentences.promise(5, "False also: another axis.");
        for (int axis : OTHERS) {
            for (int node = 0; node < 3; node++) {
                int which = node;
                Calls.refused("support(" + node + ", " + axis + ", true)", false, x -> x.support(which, axis, true));
                Calls.refused("support(" + node + ", " + axis + ", false)", false, x -> x.support(which, axis, false));
            }
        }
    }

    private static void hinges() {
        Sentences.promise(6, "The left (0) or right end (1) of a beam has a hinge (or not):");
        InfluenceRows x = Calls.made("F4x1F4x1F");
        x.row(0, 0, 0);
        x.row(0, 1, 4);
        x.row(0, 1, 0);
        Sentences.due("no hinge", Calls.at(x, 0, 0, 2), "-1/2");
        x.hinge(0, 0, true);
        Sentences.due("left of the first", Calls.at(x, 0, 0, 2), "0/1");
        x.hinge(0, 0, false);
        x.hinge(0, 1, true);
        Sentences.due("right of the first", Calls.at(x, 0, 0, 2), "-3/4");
        Sentences.due("the next beam has none", Calls.at(x, 2, 1, 2), "-1/2");
        x.hinge(1, 0, true);
        Sentences.due("left of the last", Calls.at(x, 1, 1, 2), "-3/4");
        x.hinge(1, 1, true);
        Sentences.due("right of the last", Calls.at(x, 1, 1, 2), "0/1");
        Sentences.due("hinges", x.count(2), 3);
        x.hinge(1, 1, false);
        x.hinge(1, 0, false);
        Sentences.due("none again", Calls.at(x, 2, 1, 2), "-1/2");
    }

    private static void hadOne() {
        Sentences.promise(6, "whether it had one.");
        for (int beam = 0; beam < 3; beam++) {
            for (int end = 0; end < 2; end++) {
                InfluenceRows x = Calls.made("F1x1F1x1F1x1F");
                String name = "hinge(" + beam + ", " + end + ", ";
                Sentences.due(name + "false), had none", x.hinge(beam, end, false), false);
                Sentences.due(name + "true), had none", x.hinge(beam, end, true), false);
                Sentences.due(name + "true), had one", x.hinge(beam, end, true), true);
                Sentences.due("hinges", x.count(2), 1);
                Sentences.due(name + "false), had one", x.hinge(beam, end, false), true);
                Sentences.due(name + "false), has none any more", x.hinge(beam, end, false), false);
            }
        }
    }

    private static void anotherEnd() {
        Sentences.promise(6, "False also: another end.");
        for (int end : OTHERS) {
            for (int beam = 0; beam < 2; beam++) {
                int which = beam;
                Calls.refused("hinge(" + beam + ", " + end + ", true)", false, x -> x.hinge(which, end, true));
                Calls.refused("hinge(" + beam + ", " + end + ", false)", false, x -> x.hinge(which, end, false));
            }
        }
    }

    private static void notLoose() {
        Sentences.promise(7, "0: the row is not loose;");
        String[] texts = {"F1x1.", ".1x1F", "S1x1S", "S1x1T", "T1x1S", "Fh1x1hF", "F1x1h.h1x1F", "F1x1h.h1x1h.h1x1F", "F1x1h.h1x1hS",
            "F12x12.12x12.12x12.", "S1x12S12x1S1x12S", "F1x1.1x12h.h12x1F"};
        for (String text : texts) {
            Sentences.due("solve() of " + text, Calls.made(text).solve(), 0);
        }
        Sentences.due("a new one", new InfluenceRows().solve(), 0);
    }

    private static void howManyLoose() {
        Sentences.promise(7, "else how many nodes are loose.");
        String[] texts = {"Fh1x1.", "S1x1.", "Sh1x1h.h1x1hS", "S1x1.1x1.", ".1x1.1x1.1x1.", "T1x1T1x1T1x1T", "F1x1.h1x1h.1x1F",
            "F1x1F1x1Fh1x1.", "F1x1h.h1x1h.h1x1.", "Sh1x1h.h1x1h.h1x1hS", ".1x1hF1x1F1x1F"};
        int[] want = {1, 2, 1, 3, 4, 4, 0, 1, 2, 2, 1};
        for (int i = 0; i < texts.length; i++) {
            InfluenceRows x = Calls.made(texts[i]);
            Sentences.due("solve() of " + texts[i], x.solve(), want[i]);
            Sentences.due("solve() again", x.solve(), want[i]);
        }
    }

    private static void looseNodes() {
        Sentences.promise(8, "The k-th loose node of the row");
        InfluenceRows all = Calls.made(".1x1.1x1.1x1.");
        for (int k = 0; k < 4; k++) {
            Sentences.due("loose(" + k + ") of all", all.loose(k), k);
        }
        InfluenceRows some = Calls.made("F1x1F1x1hS1x1.");
        Sentences.due("loose(0)", some.loose(0), 2);
        Sentences.due("loose(1)", some.loose(1), 3);
        InfluenceRows apart = Calls.made(".h1x1F1x1Fh1x1.");
        Sentences.due("the last node alone", apart.loose(0), 3);
        Sentences.due("the first ones are stiff or hinged", apart.loose(1), -1);
    }

    private static void asItIsNow() {
        Sentences.promise(8, "as it is now.");
        InfluenceRows x = Calls.made("S1x1.");
        Sentences.due("loose(1)", x.loose(1), 1);
        x.support(1, 0, true);
        Sentences.due("held", x.loose(0), -1);
        x.support(0, 0, false);
        Sentences.due("the other one not", x.loose(0), 0);
        x.support(1, 1, true);
        Sentences.due("in turning too", x.loose(0), -1);
        x.hinge(0, 1, true);
        Sentences.due("but with a hinge", x.loose(0), 0);
        Sentences.due("a hinge does not turn its node", x.loose(1), -1);
        Calls.read(x, "F1x1.");
        Sentences.due("another row", x.loose(0), -1);
        Calls.read(x, "F1xh1.");
        Sentences.due("a wrong text", x.loose(0), -1);
    }

    private static void noLooseNode() {
        Sentences.promise(8, "BAD: none such.");
        int[] none = {-1, 4, 5, Calls.MIN, Calls.MAX};
        for (int k : none) {
            Calls.refused("loose(" + k + ")", -1, x -> x.loose(k));
            Calls.refusedLoose("loose(" + k + ")", -1, x -> x.loose(k));
            Sentences.due("loose(" + k + ") of all", Calls.made(".1x1.1x1.1x1.").loose(k), -1);
        }
        Calls.refused("loose(0)", -1, x -> x.loose(0));
        InfluenceRows x = Calls.made("Sh1x1h.h1x1hS");
        Sentences.due("loose(1) of one", x.loose(1), -1);
    }
}
