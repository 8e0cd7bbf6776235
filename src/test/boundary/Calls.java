import java.math.BigInteger;
import java.util.function.Function;

/** Objects for the tests, and what their calls tell, as texts: a fraction is "- 3/16" without the blank. */
final class Calls {
    static final String THROWS = "throws java.lang.ArrayIndexOutOfBoundsException";
    static final int MIN = Integer.MIN_VALUE;
    static final int MAX = Integer.MAX_VALUE;

    /** Longs whose lower half is a small number: one that is cut to an int would take them. */
    static final long CUT_ONE = (1L << 32) + 1;
    static final long CUT_NOUGHT = 1L << 32;

    private static final BigInteger GROUP = BigInteger.TEN.pow(18);

    private Calls() {
    }

    private interface Parts {
        long part(int number);
    }

    static InfluenceRows made(String text) {
        InfluenceRows x = new InfluenceRows();
        int beams = read(x, text);
        if (beams < 1) {
            Sentences.due("read() of " + text, beams, "how many beams");
        }
        return x;
    }

    static void collect(InfluenceRows x, String text) {
        for (int i = 0; i < text.length(); i++) {
            x.unit(text.charAt(i));
        }
    }

    static int read(InfluenceRows x, String text) {
        collect(x, text);
        return x.read();
    }

    private static BigInteger joined(Parts parts, int side) {
        BigInteger value = BigInteger.ZERO;
        for (int group = 2; group >= 0; group--) {
            value = value.multiply(GROUP).add(BigInteger.valueOf(parts.part(2 * group + side)));
        }
        return value;
    }

    private static String told(Parts parts) {
        long sign = parts.part(-1);
        BigInteger upper = joined(parts, 0);
        if (sign == -2) {
            return "none";
        }
        if (sign != upper.signum() && sign != -upper.signum()) {
            return "sign " + sign + " of " + upper;
        }
        return (sign < 0 ? "-" : "") + upper + "/" + joined(parts, 1);
    }

    static String at(InfluenceRows x, int row, int beam, int place) {
        return told(part -> x.at(row, beam, place, part));
    }

    static String area(InfluenceRows x, int row, int sign) {
        return told(part -> x.area(row, sign, part));
    }

    static String move(InfluenceRows x, int node, long above, long below) {
        return told(part -> x.move(node, above, below, part));
    }

    /** All values of a row of one beam, for the load at places 0 .. 4. */
    static String along(InfluenceRows x, int row, int beam) {
        StringBuilder all = new StringBuilder();
        for (int place = 0; place <= 4; place++) {
            all.append(place > 0 ? " " : "").append(at(x, row, beam, place));
        }
        return all.toString();
    }

    static Fraction valueAt(InfluenceRows x, int row, int beam, int place) {
        return Fraction.of(at(x, row, beam, place));
    }

    /** Two beams, three rows (a moment, a move, a reaction), two nodes that are settled, nothing collected. */
    static InfluenceRows usual() {
        InfluenceRows x = made("F4x5.6x2hS");
        x.row(0, 0, 1);
        x.row(2, 1, 2);
        x.row(3, 2, 0);
        x.settled(0, -3);
        x.settled(2, 7);
        return x;
    }

    /** The same, but loose: nothing holds its right end any more, and nothing its left end's turning. */
    static InfluenceRows usualLoose() {
        InfluenceRows x = usual();
        x.support(0, 1, false);
        x.support(2, 0, false);
        return x;
    }

    /** All that calls tell of an object; fewer than 400 calls, which leave nothing as it was collected. */
    static String state(InfluenceRows x) {
        StringBuilder all = new StringBuilder();
        for (int what = 0; what < 5; what++) {
            all.append(x.count(what)).append(' ');
        }
        all.append("loose ").append(x.solve());
        for (int k = 0; k < 4; k++) {
            all.append(' ').append(x.loose(k));
        }
        for (int row = 0; row < x.count(1); row++) {
            all.append(" row").append(row);
            for (int beam = 0; beam < x.count(0); beam++) {
                for (int place = 0; place <= 4; place++) {
                    long upper = x.at(row, beam, place, 0);
                    all.append(' ').append(upper).append('/').append(x.at(row, beam, place, 1));
                }
            }
            all.append(' ').append(x.area(row, 1, 0)).append(' ').append(x.area(row, -1, 0)).append(x.turned(row));
        }
        all.append(x.sums());
        for (int node = 0; node <= x.count(0); node++) {
            all.append(" move ").append(x.move(node, 1, 1, -1)).append(' ').append(x.move(node, 1, 1, 0));
        }
        held(x, all);
        collect(x, "x1S");
        return all.append(" read ").append(x.read()).toString();
    }

    /** What holds the beams; each is set back to what it was. */
    private static void held(InfluenceRows x, StringBuilder all) {
        for (int node = 0; node <= x.count(0); node++) {
            for (int axis = 0; axis < 2; axis++) {
                boolean was = x.support(node, axis, true);
                if (!was) {
                    x.support(node, axis, false);
                }
                all.append(was ? " held" : " free");
            }
        }
        for (int beam = 0; beam < x.count(0); beam++) {
            for (int end = 0; end < 2; end++) {
                boolean was = x.hinge(beam, end, true);
                if (!was) {
                    x.hinge(beam, end, false);
                }
                all.append(was ? " hinge" : " stiff");
            }
        }
    }

    /** What a call answers, or the exception that it throws. */
    static Object answer(InfluenceRows x, Function<InfluenceRows, Object> call) {
        try {
            return call.apply(x);
        } catch (RuntimeException e) {
            return "throws " + e.getClass().getName();
        }
    }

    /** A call is refused with an answer, and all stays as it was, what is collected too. */
    static void refused(String name, Object want, Function<InfluenceRows, Object> call) {
        refusedOf(usual(), usual(), name, want, call);
    }

    static void refusedLoose(String name, Object want, Function<InfluenceRows, Object> call) {
        refusedOf(usualLoose(), usualLoose(), name + ", loose", want, call);
    }

    private static void refusedOf(InfluenceRows x, InfluenceRows twin, String name, Object want,
            Function<InfluenceRows, Object> call) {
        collect(x, "S1");
        collect(twin, "S1");
        Sentences.due(name, answer(x, call), want);
        Sentences.due(name + ", what stays", state(x), state(twin));
    }
}
