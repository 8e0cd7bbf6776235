import java.util.function.ToLongFunction;

/** The first section's sentence on how many calls there are, and what the face names. */
final class WholeBoundaries {
    private static final int CALLS = 512;

    private WholeBoundaries() {
    }

    static void run() {
        badAndNone();
        whichThrow();
        longestUse();
    }

    private static void badAndNone() {
        Sentences.sentence("The public face", "public static final int BAD = -1, NONE = -2;");
        Sentences.due("BAD", InfluenceRows.BAD, -1);
        Sentences.due("NONE", InfluenceRows.NONE, -2);
        InfluenceRows x = new InfluenceRows();
        Sentences.due("a refused row", x.row(9, 9, 9), InfluenceRows.BAD);
        Sentences.due("a refused sign", x.at(0, 0, 0, -1), InfluenceRows.NONE);
    }

    /** All calls with numbers far out, and none throws but the three that the face says. */
    private static void whichThrow() {
        Sentences.sentence("The public face", "public boolean member(int k, long length, long stiff) throws ArrayIndexOutOfBoundsException;");
        int[] far = {Integer.MIN_VALUE, -1000, -1, 0, 1, 2, 3, 4, 5, 8, 9, 1000, Integer.MAX_VALUE};
        String text = "S4x1S2x1.";
        for (int a : far) {
            boolean beam = a == 0 || a == 1;
            boolean node = beam || a == 2;
            for (int b : far) {
                InfluenceRows x = Calls.made(text);
                x.row(2, 0, 1);
                x.row(3, 1, 0);
                x.settled(0, 1);
                Sentences.due("at", isThrown(x, y -> y.at(a, b, 1, 0) + y.at(1, a, b, 0) + y.at(0, 0, a, b)), false);
                Sentences.due("area", isThrown(x, y -> y.area(a, b, 0) + y.area(0, a, b)), false);
                Sentences.due("move", isThrown(x, y -> y.move(a, b, 1, 0) + y.move(0, a, b, 0) + y.move(0, 1, a, b)), false);
                Sentences.due("row", isThrown(x, y -> y.row(a, b, 0) + y.row(3, a, b) + y.row(b, 0, a)), false);
                Sentences.due("settled", isThrown(x, y -> y.settled(a, b) ? 1 : 0), false);
                Sentences.due("others", isThrown(x, y -> y.loose(a) + y.count(a) + (y.turned(a) ? 1 : 0) + (y.unit(a) ? 1 : 0)), false);
                Sentences.due("member(" + a + ", ..)", isThrown(x, y -> y.member(a, b, b) ? 1 : 0), !beam);
                Sentences.due("hinge(" + a + ", ..)", isThrown(x, y -> y.hinge(a, b, true) ? 1 : 0), !beam);
                Sentences.due("support(" + a + ", ..)", isThrown(x, y -> y.support(a, b, false) ? 1 : 0), !node);
                Sentences.due("read", isThrown(x, y -> y.read() + y.solve() + (y.sums() ? 1 : 0)), false);
            }
        }
    }

    private static boolean isThrown(InfluenceRows x, ToLongFunction<InfluenceRows> call) {
        try {
            call.applyAsLong(x);
            return false;
        } catch (RuntimeException e) {
            return true;
        }
    }

    private static void longestUse() {
        Sentences.sentence("What it is", "An object is used for at most 512 calls after it has been made; "
            + "what later calls answer is free.");
        areasUpToTheLast();
        refusedUpToTheLast();
        textsUpToTheLast();
    }

    /** The dearest calls, each behind a change, so that nothing can be kept from the one before. */
    private static void areasUpToTheLast() {
        String text = "S11x3S12x5.7x11F";
        InfluenceRows x = Calls.made(text);
        x.row(1, 0, 3);
        x.row(2, 1, 2);
        int calls = text.length() + 3;
        while (calls < CALLS - 7) {
            x.member(1, 12, 4);
            x.area(0, -1, 0);
            x.member(1, 12, 5);
            x.turned(1);
            x.sums();
            x.support(0, 1, false);
            Sentences.due("call " + (calls + 7), x.area(0, -1, 3), 68);
            calls += 7;
        }
        while (calls < CALLS - 1) {
            x.solve();
            calls++;
        }
        Sentences.due("call 512", x.area(0, -1, 0), 836343303050623731L);
    }

    private static void refusedUpToTheLast() {
        InfluenceRows x = new InfluenceRows();
        x.row(2, 0, 4);
        for (int calls = 1; calls < CALLS - 1; calls++) {
            int wrong = calls;
            Sentences.due("call " + (calls + 1), Calls.answer(x, y -> refusedCall(y, wrong)), "refused");
        }
        Sentences.due("call 512", x.at(0, 0, 4, 1), 3);
    }

    private static String refusedCall(InfluenceRows x, int wrong) {
        boolean none;
        switch (wrong % 7) {
            case 0:
                none = !x.unit(127 + wrong);
                break;
            case 1:
                none = x.row(4 + wrong, 0, 0) == -1;
                break;
            case 2:
                none = x.at(wrong, 0, 0, -1) == -2;
                break;
            case 3:
                none = x.area(0, 1 + wrong, 0) == -1;
                break;
            case 4:
                none = !x.member(0, 12 + wrong, 1);
                break;
            case 5:
                none = !x.settled(1, wrong);
                break;
            default:
                none = x.read() == -1;
                break;
        }
        return none ? "refused" : "not refused";
    }

    private static void textsUpToTheLast() {
        InfluenceRows x = new InfluenceRows();
        for (int calls = 1; calls <= CALLS - 14; calls++) {
            Sentences.due("call " + calls, x.unit('z'), calls <= 50);
        }
        x.read();
        String text = "F1x1.1x1.1x1";
        Calls.collect(x, text);
        Sentences.due("call 511 and 512", x.unit('.') ? x.read() : 0, 3);
    }
}
