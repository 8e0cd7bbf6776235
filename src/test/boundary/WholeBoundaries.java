import java.util.function.ToLongFunction;

/** The first section's sentence on how many calls there are, and what the face names. */
final class WholeBoundaries {
    private static final int CALLS = 512;
    private static final int[] FAR = {Integer.MIN_VALUE, -1000, -1, 0, 1, 2, 3, 4, 5, 8, 9, 1000, Integer.MAX_VALUE};
    private static final String[] THROWING = {
        "public boolean member(int k, long length, long stiff) throws ArrayIndexOutOfBoundsException;",
        "public boolean support(int node, int axis, boolean on) throws ArrayIndexOutOfBoundsException;",
        "public boolean hinge(int member, int end, boolean on) throws ArrayIndexOutOfBoundsException;"};

    private WholeBoundaries() {
    }

    static void run() {
        badAndNone();
        whichThrow();
        noOtherThrows();
        longestUse();
    }

    private static void badAndNone() {
        Sentences.sentence("The public face", "public static final int BAD = -1, NONE = -2;");
        Sentences.due("BAD", InfluenceRows.BAD, -1);
        Sentences.due("NONE", InfluenceRows.NONE, -2);
        InfluenceRows x = new InfluenceRows();
        Sentences.due("a refused row", x.row(9, 9, 9), InfluenceRows.BAD);
        Sentences.due("a refused sign", x.at(0, 0, 0, -1), InfluenceRows.NONE);
    }

    private static InfluenceRows farAsked() {
        InfluenceRows x = Calls.made("S4x1S2x1.");
        x.row(2, 0, 1);
        x.row(3, 1, 0);
        x.settled(0, 1);
        return x;
    }

    /** The three calls that throw, with numbers far out: only for a beam or a node that there is not. */
    private static void whichThrow() {
        for (int call = 0; call < THROWING.length; call++) {
            Sentences.sentence("The public face", THROWING[call]);
            for (int a : FAR) {
                boolean there = a == 0 || a == 1 || a == 2 && call == 1;
                for (int b : FAR) {
                    int which = call;
                    Object want = there ? "no throw" : Calls.THROWS;
                    Sentences.due("with " + a + ", " + b, Calls.answer(farAsked(), x -> throwingCall(x, which, a, b)), want);
                }
            }
        }
    }

    private static String throwingCall(InfluenceRows x, int which, int a, int b) {
        switch (which) {
            case 0:
                x.member(a, b, b);
                break;
            case 1:
                x.support(a, b, false);
                break;
            default:
                x.hinge(a, b, true);
                break;
        }
        return "no throw";
    }

    /** The calls that the face lets throw nothing, with numbers far out (unit and read too). */
    private static void noOtherThrows() {
        Sentences.sentence("The public face", "public int solve(); public int loose(int k); "
            + "public int row(int what, int member, int place); public long at(int row, int member, int place, int part); "
            + "public long area(int row, int sign, int part); public boolean turned(int row); public boolean sums(); "
            + "public boolean settled(int node, long v); public long move(int node, long above, long below, int part); "
            + "public int count(int what);");
        for (int a : FAR) {
            for (int b : FAR) {
                InfluenceRows x = farAsked();
                Sentences.due("at", isThrown(x, y -> y.at(a, b, 1, 0) + y.at(1, a, b, 0) + y.at(0, 0, a, b)), false);
                Sentences.due("area", isThrown(x, y -> y.area(a, b, 0) + y.area(0, a, b)), false);
                Sentences.due("move", isThrown(x, y -> y.move(a, b, 1, 0) + y.move(0, a, b, 0) + y.move(0, 1, a, b)), false);
                Sentences.due("row", isThrown(x, y -> y.row(a, b, 0) + y.row(3, a, b) + y.row(b, 0, a)), false);
                Sentences.due("settled", isThrown(x, y -> y.settled(a, b) ? 1 : 0), false);
                Sentences.due("others", isThrown(x, y -> y.loose(a) + y.count(a) + (y.turned(a) ? 1 : 0) + (y.unit(a) ? 1 : 0)), false);
                Sentences.due("read", isThrown(x, y -> y.read() + y.solve() + (y.sums() ? 1 : 0)), false);
            }
        }
    }

    private static boolean isThrown(InfluenceRows x, ToLongFunction<InfluenceRows> call) {
        try {
            call.applyAsLong(x);
            return false;
        } catch (RuntimeException e) {
            return true;
        }
    }

    private static void longestUse() {
        Sentences.sentence("What it is", "An object is used for at most 512 calls after it has been made; "
            + "what later calls answer is free.");
        areasUpToTheLast();
        refusedUpToTheLast();
        textsUpToTheLast();
    }

    /** The dearest calls, each behind a change, so that nothing can be kept from the one before. */
    private static void areasUpToTheLast() {
        String text = "S11x3S12x5.7x11F";
        InfluenceRows x = Calls.made(text);
        x.row(1, 0, 3);
        x.row(2, 1, 2);
        int calls = text.length() + 3;
        while (calls < CALLS - 7) {
            x.member(1, 12, 4);
            x.area(0, -1, 0);
            x.member(1, 12, 5);
            x.turned(1);
            x.sums();
            x.support(0, 1, false);
            Sentences.due("call " + (calls + 7), x.area(0, -1, 3), 68);
            calls += 7;
        }
        while (calls < CALLS - 1) {
            x.solve();
            calls++;
        }
        Sentences.due("call 512", x.area(0, -1, 0), 836343303050623731L);
    }

    private static void refusedUpToTheLast() {
        InfluenceRows x = new InfluenceRows();
        x.row(2, 0, 4);
        for (int calls = 1; calls < CALLS - 1; calls++) {
            int wrong = calls;
            Sentences.due("call " + (calls + 1), Calls.answer(x, y -> refusedCall(y, wrong)), "refused");
        }
        Sentences.due("call 512", x.at(0, 0, 4, 1), 3);
    }

    private static String refusedCall(InfluenceRows x, int wrong) {
        boolean none;
        switch (wrong % 7) {
            case 0:
                none = !x.unit(127 + wrong);
                break;
            case 1:
                none = x.row(4 + wrong, 0, 0) == -1;
                break;
            case 2:
                none = x.at(wrong, 0, 0, -1) == -2;
                break;
            case 3:
                none = x.area(0, 1 + wrong, 0) == -1;
                break;
            case 4:
                none = !x.member(0, 12 + wrong, 1);
                break;
            case 5:
                none = !x.settled(1, wrong);
                break;
            default:
                none = x.read() == -1;
                break;
        }
        return none ? "refused" : "not refused";
    }

    private static void textsUpToTheLast() {
        String text = "F1x1.1x1.1x1.";
        int before = CALLS - text.length() - 2;
        InfluenceRows x = new InfluenceRows();
        for (int calls = 1; calls <= before; calls++) {
            Sentences.due("call " + calls, x.unit('z'), calls <= 50);
        }
        Sentences.due("call " + (before + 1), x.read(), -1);
        Calls.collect(x, text);
        Sentences.due("call 512", x.read(), 3);
    }
}
