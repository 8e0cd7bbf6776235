/** Promises 9 to 13: rows, their values and areas, and the checks. */
final class RowsBoundaries {
    private static final int[] NO_ROWS = {-1, 3, 7, 8, 9, Calls.MIN, Calls.MAX};
    private static final int[] NO_BEAMS = {-1, 2, 3, Calls.MIN, Calls.MAX};
    private static final int[] NO_PLACES = {-1, 5, 6, Calls.MIN, Calls.MAX};

    private RowsBoundaries() {
    }

    static void run() {
        rowIsTold();
        justBeforeTheLoad();
        withinTheBeam();
        itsNumber();
        nodeHeldInHeight();
        asLongAsItIsTold();
        reactionRow();
        sameAgain();
        noSuchRow();
        thereAreEight();
        valueOfARow();
        noSuchValue();
        looseValue();
        reactionNotHeld();
        straightLines();
        aboveAndBelow();
        noSuchArea();
        exchanged();
        turnedOfAnotherRow();
        turnedLoose();
        sumsAreOne();
        sumsLoose();
    }

    private static void rowIsTold() {
        Sentences.promise(9, "A row is told: what (0 moment, 1 shear, 2 move down) at a place of a beam");
        InfluenceRows x = Calls.made("F4x2.");
        x.row(0, 0, 0);
        x.row(1, 0, 0);
        x.row(2, 0, 4);
        x.row(0, 0, 4);
        Sentences.due("moment at the foot", Calls.along(x, 0, 0), "0/1 -1/1 -2/1 -3/1 -4/1");
        Sentences.due("shear at the foot", Calls.along(x, 1, 0), "0/1 1/1 1/1 1/1 1/1");
        Sentences.due("move of the tip", Calls.along(x, 2, 0), "0/1 11/12 10/3 27/4 32/3");
        Sentences.due("moment at the tip", Calls.along(x, 3, 0), "0/1 0/1 0/1 0/1 0/1");
        InfluenceRows last = Calls.made("S4x1S4x1S4x1S");
        Sentences.due("the last place of the last beam", last.row(2, 2, 4), 0);
        Sentences.due("the first place of the first beam", last.row(2, 0, 0), 1);
        Sentences.due("a row of a loose one", Calls.made(".1x1.").row(0, 0, 2), 0);
    }

    private static void justBeforeTheLoad() {
        Sentences.promise(9, "(of the shear at a load's own place: just before it;");
        InfluenceRows x = Calls.made("S4x1S");
        for (int place = 1; place <= 3; place++) {
            x.row(1, 0, place);
        }
        Sentences.due("at place 1", Calls.along(x, 0, 0), "0/1 3/4 1/2 1/4 0/1");
        Sentences.due("at place 2", Calls.along(x, 1, 0), "0/1 -1/4 1/2 1/4 0/1");
        Sentences.due("at place 3", Calls.along(x, 2, 0), "0/1 -1/4 -1/2 1/4 0/1");
    }

    private static void withinTheBeam() {
        Sentences.promise(9, "at places 0 and 4 as within the beam):");
        InfluenceRows held = Calls.made("S4x1S");
        held.row(1, 0, 0);
        held.row(1, 0, 4);
        Sentences.due("place 0, held", Calls.along(held, 0, 0), "0/1 3/4 1/2 1/4 0/1");
        Sentences.due("place 4, held", Calls.along(held, 1, 0), "0/1 -1/4 -1/2 -3/4 0/1");
        InfluenceRows right = Calls.made("F4x1.");
        right.row(1, 0, 4);
        right.row(1, 0, 0);
        Sentences.due("place 4, free", Calls.along(right, 0, 0), "0/1 0/1 0/1 0/1 1/1");
        Sentences.due("place 0, held in both", Calls.along(right, 1, 0), "0/1 1/1 1/1 1/1 1/1");
        InfluenceRows left = Calls.made(".4x1F");
        left.row(1, 0, 0);
        left.row(1, 0, 4);
        Sentences.due("place 0, free", Calls.along(left, 0, 0), "-1/1 0/1 0/1 0/1 0/1");
        Sentences.due("place 4, held in both", Calls.along(left, 1, 0), "-1/1 -1/1 -1/1 -1/1 0/1");
    }

    private static void itsNumber() {
        Sentences.promise(9, "its number;");
        InfluenceRows x = Calls.made("S4x1S");
        for (int row = 0; row < 8; row++) {
            Sentences.due("row " + row, x.row(row % 3, 0, row % 5), row);
            Sentences.due("a refused one takes no number", x.row(-1, 0, 0), -1);
            Sentences.due("rows", x.count(1), row + 1);
        }
        Sentences.due("number 7 is a shear at place 2", Calls.at(x, 7, 0, 2), "1/2");
        Sentences.due("number 0 is a moment at place 0", Calls.at(x, 0, 0, 2), "0/1");
    }

    private static void nodeHeldInHeight() {
        Sentences.promise(9, "for a node held in height");
        InfluenceRows x = Calls.made("F4x1T4x1S4x1.");
        int[] want = {0, -1, 1, -1};
        for (int node = 0; node < 4; node++) {
            Sentences.due("row(3, " + node + ", 0)", x.row(3, node, 0), want[node]);
        }
        InfluenceRows y = Calls.made("S4x1S4x1S4x1S");
        Sentences.due("node 3 of three beams", y.row(3, 3, 0), 0);
        Sentences.due("node 4 of three beams", y.row(3, 4, 0), -1);
    }

    private static void asLongAsItIsTold() {
        Sentences.promise(9, "(then, and as long as it is told)");
        InfluenceRows x = Calls.made("S4x1S4x1S");
        Sentences.due("row(3, 1, 0)", x.row(3, 1, 0), 0);
        x.support(1, 0, false);
        Sentences.due("not held then", x.row(3, 1, 0), -1);
        Sentences.due("not held any more", Calls.at(x, 0, 0, 4), "none");
        Sentences.due("no area either", Calls.area(x, 0, 1), "none");
        Sentences.due("it is still told", x.count(1), 1);
        x.support(1, 0, true);
        Sentences.due("held again", Calls.at(x, 0, 0, 4), "1/1");
        Sentences.due("held again, told again", x.row(3, 1, 0), 1);
    }

    private static void reactionRow() {
        Sentences.promise(9, "what is 3, member the node, place 0: its reaction.");
        InfluenceRows x = Calls.made("S4x1S2x1.");
        x.row(3, 0, 0);
        x.row(3, 1, 0);
        Sentences.due("the first", Calls.along(x, 0, 0), "1/1 3/4 1/2 1/4 0/1");
        Sentences.due("the first, beyond the second", Calls.along(x, 0, 1), "0/1 -1/8 -1/4 -3/8 -1/2");
        Sentences.due("the second", Calls.along(x, 1, 0), "0/1 1/4 1/2 3/4 1/1");
        Sentences.due("the second, beyond it", Calls.along(x, 1, 1), "1/1 9/8 5/4 11/8 3/2");
        for (int place : new int[] {1, 2, 3, 4, 5, -1, Calls.MIN, Calls.MAX}) {
            Sentences.due("row(3, 0, " + place + ")", x.row(3, 0, place), -1);
        }
    }

    private static void sameAgain() {
        Sentences.promise(9, "(The same told again is a new row.)");
        InfluenceRows x = Calls.made("S4x1S");
        Sentences.due("first", x.row(0, 0, 2), 0);
        Sentences.due("again", x.row(0, 0, 2), 1);
        Sentences.due("a reaction", x.row(3, 0, 0), 2);
        Sentences.due("again", x.row(3, 0, 0), 3);
        Sentences.due("rows", x.count(1), 4);
        Sentences.due("the same values", Calls.along(x, 1, 0), Calls.along(x, 0, 0));
        for (int row = 4; row < 8; row++) {
            Sentences.due("and again", x.row(0, 0, 2), row);
        }
        Sentences.due("up to eight", x.row(0, 0, 2), -1);
    }

    private static void noSuchRow() {
        Sentences.promise(9, "BAD: none such;");
        for (int what : new int[] {-1, 4, 5, Calls.MIN, Calls.MAX}) {
            Calls.refused("row(" + what + ", 0, 0)", -1, x -> x.row(what, 0, 0));
            Calls.refusedLoose("row(" + what + ", 0, 0)", -1, x -> x.row(what, 0, 0));
        }
        for (int what = 0; what < 3; what++) {
            int asked = what;
            for (int beam : NO_BEAMS) {
                Calls.refused("row(" + what + ", " + beam + ", 2)", -1, x -> x.row(asked, beam, 2));
            }
            for (int place : NO_PLACES) {
                Calls.refused("row(" + what + ", 1, " + place + ")", -1, x -> x.row(asked, 1, place));
            }
        }
        for (int node : new int[] {-1, 1, 3, 4, Calls.MIN, Calls.MAX}) {
            Calls.refused("row(3, " + node + ", 0)", -1, x -> x.row(3, node, 0));
        }
        for (int place : new int[] {1, 4, -1, 5, Calls.MIN, Calls.MAX}) {
            Calls.refused("row(3, 2, " + place + ")", -1, x -> x.row(3, 2, place));
        }
        Calls.refusedLoose("row(3, 2, 0)", -1, x -> x.row(3, 2, 0));
    }

    private static InfluenceRows fullOfRows() {
        InfluenceRows x = Calls.made("S4x1S");
        for (int row = 0; row < 8; row++) {
            x.row(row % 4, 0, row % 4 == 3 ? 0 : 2);
        }
        return x;
    }

    private static void thereAreEight() {
        Sentences.promise(9, "there are 8.");
        InfluenceRows x = fullOfRows();
        Sentences.due("rows", x.count(1), 8);
        for (int what = 0; what < 4; what++) {
            Sentences.due("a ninth, " + what, x.row(what, 0, 0), -1);
        }
        Sentences.due("rows", x.count(1), 8);
        Sentences.due("the last stays", Calls.at(x, 7, 0, 1), "3/4");
        Sentences.due("the first stays", Calls.at(x, 0, 0, 1), "1/2");
        InfluenceRows y = fullOfRows();
        y.row(2, 0, 3);
        Sentences.due("what stays", Calls.state(y), Calls.state(fullOfRows()));
        Sentences.due("row 8 is none", Calls.at(y, 8, 0, 1), "none");
        Calls.read(x, "S4x1S");
        Sentences.due("room behind read()", x.row(0, 0, 0), 0);
    }

    private static void valueOfARow() {
        Sentences.promise(10, "The value of a row, if the load stands at a place of a beam, by parts.");
        InfluenceRows x = Calls.made("S4x1S4x1.");
        x.row(0, 0, 4);
        x.row(2, 1, 4);
        Sentences.due("first beam", Calls.along(x, 0, 0), "0/1 0/1 0/1 0/1 0/1");
        Sentences.due("last beam", Calls.along(x, 0, 1), "0/1 -1/1 -2/1 -3/1 -4/1");
        Sentences.due("move of the tip, load before", Calls.along(x, 1, 0), "0/1 -5/2 -4/1 -7/2 0/1");
        Sentences.due("move of the tip, load at it", Calls.at(x, 1, 1, 4), "128/3");
        long[] parts = {-1, 7, 2, 0, 0, 0};
        for (int part = -1; part < 5; part++) {
            Sentences.due("part " + part, x.at(1, 0, 3, part), parts[part + 1]);
        }
    }

    private static void refusedAt(String name, int row, int beam, int place) {
        Calls.refused("at(" + name + ", -1)", -2, x -> x.at(row, beam, place, -1));
        for (int part : new int[] {0, 1, 2, 9, Calls.MAX, -2, Calls.MIN}) {
            Calls.refused("at(" + name + ", " + part + ")", -1, x -> x.at(row, beam, place, part));
        }
    }

    private static void noSuchValue() {
        Sentences.promise(10, "BAD (part - 1: NONE): none such;");
        for (int row : NO_ROWS) {
            refusedAt("row " + row, row, 0, 0);
        }
        for (int beam : NO_BEAMS) {
            refusedAt("beam " + beam, 0, beam, 0);
        }
        for (int place : NO_PLACES) {
            refusedAt("place " + place, 0, 1, place);
        }
        InfluenceRows x = new InfluenceRows();
        Sentences.due("no rows at all", Calls.at(x, 0, 0, 0), "none");
        InfluenceRows full = fullOfRows();
        Sentences.due("row 7 of eight", Calls.at(full, 7, 0, 0), "1/1");
        Sentences.due("row 8 of eight", Calls.at(full, 8, 0, 0), "none");
        Sentences.due("row - 1 of eight", Calls.at(full, -1, 0, 0), "none");
    }

    private static void looseValue() {
        Sentences.promise(10, "the row of beams is loose;");
        for (int row = 0; row < 3; row++) {
            int asked = row;
            Calls.refusedLoose("at(" + row + ", 0, 0, -1)", -2, x -> x.at(asked, 0, 0, -1));
            Calls.refusedLoose("at(" + row + ", 0, 0, 0)", -1, x -> x.at(asked, 0, 0, 0));
            Calls.refusedLoose("at(" + row + ", 1, 4, 1)", -1, x -> x.at(asked, 1, 4, 1));
            Calls.refusedLoose("at(" + row + ", 1, 4, -2)", -1, x -> x.at(asked, 1, 4, -2));
        }
        InfluenceRows x = Calls.made("F1x1Fh1x1.");
        x.row(0, 0, 0);
        Sentences.due("a beam that is stiff by itself", Calls.at(x, 0, 0, 2), "none");
        x.support(2, 0, true);
        Sentences.due("not loose any more", Calls.at(x, 0, 0, 2), "-1/8");
    }

    private static void reactionNotHeld() {
        Sentences.promise(10, "of a reaction: that node is not held now.");
        InfluenceRows x = Calls.made("F4x1S4x1S");
        x.row(3, 2, 0);
        x.row(0, 0, 0);
        x.support(2, 0, false);
        Sentences.due("sign", x.at(0, 1, 4, -1), -2);
        Sentences.due("upper", x.at(0, 1, 4, 0), -1);
        Sentences.due("lower", x.at(0, 1, 4, 1), -1);
        Sentences.due("other rows are told", Calls.at(x, 1, 0, 2), "-3/4");
        x.support(2, 1, true);
        Sentences.due("turning does not hold it", Calls.at(x, 0, 1, 4), "none");
        x.support(2, 0, true);
        Sentences.due("held again", Calls.at(x, 0, 1, 4), "1/1");
    }

    private static void straightLines() {
        Sentences.promise(11, "The area between 0 and the straight lines that join the values of a row at all places in order,");
        String[] texts = {"S4x1S", "S11x3S12x5.7x11F", "F1x12.12x1h.3x3S", "S5x5S1x1S12x12S"};
        int[][] lengths = {{4}, {11, 12, 7}, {1, 12, 3}, {5, 1, 12}};
        for (int i = 0; i < texts.length; i++) {
            for (int what = 0; what < 4; what++) {
                InfluenceRows x = Calls.made(texts[i]);
                x.row(what, 0, what == 3 ? 0 : 3);
                String name = texts[i] + ", " + what;
                Sentences.due(name + ", above", Calls.area(x, 0, 1), TermsBoundaries.areaOf(x, 0, 1, lengths[i]));
                Sentences.due(name + ", below", Calls.area(x, 0, -1), TermsBoundaries.areaOf(x, 0, -1, lengths[i]));
            }
        }
        InfluenceRows x = Calls.made("S4x1S");
        x.row(1, 0, 2);
        Sentences.due("a line that crosses 0", Calls.area(x, 0, 1), "2/3");
        Sentences.due("and what is below", Calls.area(x, 0, -1), "1/6");
    }

    private static void aboveAndBelow() {
        Sentences.promise(11, "above 0 (sign 1), or below it (- 1; told as above 0), by parts.");
        InfluenceRows x = Calls.made("S4x1S2x1.");
        x.row(3, 0, 0);
        x.row(0, 0, 4);
        x.row(0, 0, 0);
        long[] above = {1, 2, 1, 0};
        long[] below = {1, 1, 2, 0};
        for (int part = -1; part < 3; part++) {
            Sentences.due("above, part " + part, x.area(0, 1, part), above[part + 1]);
            Sentences.due("below, part " + part, x.area(0, -1, part), below[part + 1]);
        }
        Sentences.due("nothing above", Calls.area(x, 1, 1), "0/1");
        Sentences.due("all of it below", Calls.area(x, 1, -1), "2/1");
        Sentences.due("nothing at all, above", Calls.area(x, 2, 1), "0/1");
        Sentences.due("nothing at all, below", Calls.area(x, 2, -1), "0/1");
    }

    private static void refusedArea(String name, int row, int sign) {
        Calls.refused("area(" + name + ", -1)", -2, x -> x.area(row, sign, -1));
        for (int part : new int[] {0, 1, 2, Calls.MAX, -2, Calls.MIN}) {
            Calls.refused("area(" + name + ", " + part + ")", -1, x -> x.area(row, sign, part));
        }
    }

    private static void noSuchArea() {
        Sentences.promise(11, "BAD (part - 1: NONE): as above.");
        for (int row : NO_ROWS) {
            refusedArea("row " + row, row, 1);
            refusedArea("row " + row, row, -1);
        }
        for (int sign : new int[] {0, 2, -2, 3, Calls.MIN, Calls.MAX}) {
            refusedArea("sign " + sign, 0, sign);
        }
        for (int row = 0; row < 3; row++) {
            int asked = row;
            Calls.refusedLoose("area(" + row + ", 1, -1)", -2, x -> x.area(asked, 1, -1));
            Calls.refusedLoose("area(" + row + ", -1, 0)", -1, x -> x.area(asked, -1, 0));
            Calls.refusedLoose("area(" + row + ", 1, -2)", -1, x -> x.area(asked, 1, -2));
        }
        InfluenceRows x = Calls.made("F4x1S4x1S");
        x.row(3, 2, 0);
        x.row(3, 1, 0);
        x.support(2, 0, false);
        Sentences.due("a reaction whose node is not held, sign", x.area(0, 1, -1), -2);
        Sentences.due("a reaction whose node is not held, upper", x.area(0, 1, 0), -1);
        Sentences.due("a reaction whose node is held", x.area(1, 1, -1), 1);
        x.support(2, 0, true);
        Sentences.due("held again", x.area(0, 1, -1), 1);
    }

    private static void exchanged() {
        Sentences.promise(12, "For a row of moves: whether a load at each place moves the row's place as much as "
            + "a load there moves that place.");
        InfluenceRows x = Calls.made("F7x3S5x2h.3x11S");
        int[][] places = {{0, 0}, {0, 1}, {1, 3}, {1, 4}, {2, 0}, {2, 2}, {2, 4}, {0, 4}};
        for (int row = 0; row < 8; row++) {
            x.row(2, places[row][0], places[row][1]);
            Sentences.due("turned(" + row + ")", x.turned(row), true);
        }
        for (int row = 0; row < 8; row++) {
            for (int other = row + 1; other < 8; other++) {
                long one = x.at(row, places[other][0], places[other][1], 0);
                Sentences.due("it is so of rows " + row + " and " + other, x.at(other, places[row][0], places[row][1], 0), one);
            }
        }
        x.member(1, 12, 12);
        Sentences.due("behind a change", x.turned(5), true);
    }

    private static void turnedOfAnotherRow() {
        Sentences.promise(12, "False also: another row,");
        Calls.refused("turned of a moment", false, x -> x.turned(0));
        Calls.refused("turned of a reaction", false, x -> x.turned(2));
        for (int row : NO_ROWS) {
            Calls.refused("turned(" + row + ")", false, x -> x.turned(row));
        }
        InfluenceRows full = fullOfRows();
        for (int row = -1; row <= 8; row++) {
            Sentences.due("turned(" + row + ") of eight", full.turned(row), row == 2 || row == 6);
        }
        Sentences.due("no rows at all", new InfluenceRows().turned(0), false);
    }

    private static void turnedLoose() {
        Sentences.promise(12, "loose.");
        Calls.refusedLoose("turned(1)", false, x -> x.turned(1));
        InfluenceRows x = Calls.usual();
        Sentences.due("not loose", x.turned(1), true);
        x.support(0, 1, false);
        x.support(2, 0, false);
        Sentences.due("loose", x.turned(1), false);
        x.support(2, 0, true);
        Sentences.due("not loose again", x.turned(1), true);
    }

    private static void sumsAreOne() {
        Sentences.promise(13, "Whether for each place of a load all reactions together are one.");
        String[] texts = {"F1x1.", ".12x12F", "S4x3S", "T3x3S4x4hT2x5F", "F1x1h.h2x3F", "S12x12S11x11S10x10S", "F12x1F1x12F7x7F"};
        for (String text : texts) {
            Sentences.due("sums() of " + text, Calls.made(text).sums(), true);
        }
        InfluenceRows x = Calls.made("S3x5F7x11S");
        for (int node = 0; node < 3; node++) {
            x.row(3, node, 0);
        }
        for (int beam = 0; beam < 2; beam++) {
            for (int place = 0; place <= 4; place++) {
                Fraction sum = Calls.valueAt(x, 0, beam, place).plus(Calls.valueAt(x, 1, beam, place))
                    .plus(Calls.valueAt(x, 2, beam, place));
                Sentences.due("it is so at " + beam + " " + place, sum, "1/1");
            }
        }
        Sentences.due("sums() of them", x.sums(), true);
        Sentences.due("no row is told for it", Calls.made("S3x5F7x11S").sums(), true);
    }

    private static void sumsLoose() {
        Sentences.promise(13, "False also: loose.");
        for (String text : new String[] {".1x1.", "S1x1.", "T1x1T", "Sh1x1h.h1x1hS", "F1x1Fh1x1."}) {
            Sentences.due("sums() of " + text, Calls.made(text).sums(), false);
        }
        Calls.refusedLoose("sums()", false, x -> x.sums());
        InfluenceRows x = Calls.made("S1x1.");
        x.support(1, 0, true);
        Sentences.due("not loose any more", x.sums(), true);
        x.support(0, 0, false);
        Sentences.due("loose again", x.sums(), false);
    }
}
