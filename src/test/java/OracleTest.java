import java.math.BigInteger;
import java.util.ArrayList;
import java.util.Arrays;
import java.util.List;
import java.util.Random;
import java.util.regex.Matcher;
import java.util.regex.Pattern;

/**
 * Long runs of calls, drawn from fixed seeds, against a second model that shares nothing with the
 * program: it writes down the document's own equations (shapes, moments, shears, nodes) over
 * fractions of BigInteger, and solves them by plain elimination.
 */
public final class OracleTest {
    private static final int RUNS = Integer.getInteger("oracle.runs", 400);
    private static final int CALLS = 512;
    private static int wrong = 0;
    private static int values = 0;
    private static int looseRows = 0;
    private static int longParts = 0;
    private static int crossings = 0;

    public static void main(String[] args) {
        for (int run = 0; run < RUNS && wrong < 20; run++) {
            new Run(run).play();
        }
        System.out.println("oracle: " + values + " values, " + looseRows + " loose answers, " + longParts
            + " parts beyond eighteen digits, " + crossings + " areas that are no 0 on both sides");
        if (values < 10000 || looseRows < 200 || longParts < 10 || crossings < 1000) {
            System.out.println("the runs do not reach enough");
            wrong++;
        }
        if (wrong > 0) {
            System.exit(1);
        }
    }

    /** One run: the same calls on the program and on the model. */
    private static final class Run {
        final int number;
        final Random random;
        final InfluenceRows program = new InfluenceRows();
        final Model model = new Model();
        int calls = 0;

        Run(int number) {
            this.number = number;
            this.random = new Random(7919L * number + 17);
        }

        void due(String call, long got, long want) {
            calls++;
            if (got != want) {
                wrong++;
                System.out.println("run " + number + ", call " + calls + ": " + call + " answered " + got
                    + ", due is " + want + " on " + model.told());
            }
        }

        void play() {
            if (number % 3 == 0) {
                goThrough();
                return;
            }
            if (random.nextInt(4) > 0) {
                readText(random.nextInt(3) > 0 ? steadyText() : anyText());
            }
            while (calls < CALLS && wrong < 20) {
                step(random.nextInt(100));
            }
        }

        /** Eight rows of one row of beams, and all their values. */
        void goThrough() {
            readText(number % 2 == 0 ? longText() : steadyText());
            for (int i = 0; i < 8; i++) {
                int what = i % 4;
                int beam = random.nextInt(model.beams() + (what == 3 ? 1 : 0));
                int place = what == 3 ? 0 : random.nextInt(5);
                due("row(" + what + ", " + beam + ", " + place + ")", program.row(what, beam, place),
                    model.row(what, beam, place));
            }
            for (int i = 0; i < 40; i++) {
                callArea();
                callMove();
            }
            for (int i = 0; calls < CALLS; i++) {
                int row = i / 3 / 15 % 8;
                int beam = i / 3 / 5 % 3;
                int place = i / 3 % 5;
                int part = i % 3 == 0 ? random.nextInt(5) - 1 : i % 3 + (random.nextInt(3) == 0 ? 2 : 0);
                checkAt(row, beam, place, part);
            }
        }

        void step(int dice) {
            if (dice < 3 || dice < 30 && model.solve() > 0 && random.nextInt(4) == 0) {
                readText(someText());
            } else if (dice < 8) {
                callMember();
            } else if (dice < 14) {
                callSupport();
            } else if (dice < 19) {
                callHinge();
            } else if (dice < 23) {
                due("solve()", program.solve(), model.solve());
                looseRows += model.solve() > 0 ? 1 : 0;
            } else if (dice < 26) {
                int k = edge(-1, 5);
                due("loose(" + k + ")", program.loose(k), model.loose(k));
            } else if (dice < 36) {
                int what = edge(0, 3);
                int beam = edge(0, 2);
                int place = what == 3 && random.nextInt(5) > 0 ? 0 : edge(0, 4);
                due("row(" + what + ", " + beam + ", " + place + ")", program.row(what, beam, place),
                    model.row(what, beam, place));
            } else if (dice < 62) {
                callAt();
            } else if (dice < 74) {
                callArea();
            } else {
                otherStep(dice);
            }
        }

        void otherStep(int dice) {
            if (dice < 78) {
                int row = edge(0, 7);
                due("turned(" + row + ")", program.turned(row) ? 1 : 0, model.turned(row) ? 1 : 0);
            } else if (dice < 81) {
                due("sums()", program.sums() ? 1 : 0, model.sums() ? 1 : 0);
            } else if (dice < 86) {
                int node = edge(0, 3);
                long v = random.nextInt(8) == 0 ? random.nextInt(5) * 1001L - 2002 : random.nextInt(2001) - 1000;
                due("settled(" + node + ", " + v + ")", program.settled(node, v) ? 1 : 0,
                    model.settled(node, v) ? 1 : 0);
            } else if (dice < 95) {
                callMove();
            } else {
                int what = edge(0, 4);
                due("count(" + what + ")", program.count(what), model.count(what));
            }
        }

        int edge(int low, int high) {
            if (random.nextInt(25) == 0) {
                int[] far = {low - 1, high + 1, Integer.MIN_VALUE, Integer.MAX_VALUE, -2, 13};
                return far[random.nextInt(far.length)];
            }
            return low + random.nextInt(high - low + 1);
        }

        int somePart() {
            int dice = random.nextInt(20);
            return dice == 0 ? Integer.MAX_VALUE - random.nextInt(2)
                : dice == 1 ? -2 - random.nextInt(3)
                : dice == 2 ? Integer.MIN_VALUE : random.nextInt(9) - 1;
        }

        void callMember() {
            int k = edge(0, 2);
            long length = random.nextInt(8) == 0 ? random.nextInt(3) * 13L - 13 : 1 + random.nextInt(12);
            long stiff = random.nextInt(8) == 0 ? random.nextInt(3) * 4294967297L : 1 + random.nextInt(12);
            long got;
            try {
                got = program.member(k, length, stiff) ? 1 : 0;
            } catch (ArrayIndexOutOfBoundsException e) {
                got = 99;
            }
            due("member(" + k + ", " + length + ", " + stiff + ")", got, model.member(k, length, stiff));
        }

        void callSupport() {
            int node = edge(0, 3);
            int axis = edge(0, 1);
            boolean on = random.nextInt(5) > 1;
            long got;
            try {
                got = program.support(node, axis, on) ? 1 : 0;
            } catch (ArrayIndexOutOfBoundsException e) {
                got = 99;
            }
            due("support(" + node + ", " + axis + ", " + on + ")", got, model.support(node, axis, on));
        }

        void callHinge() {
            int beam = edge(0, 2);
            int end = edge(0, 1);
            boolean on = random.nextInt(5) > 2;
            long got;
            try {
                got = program.hinge(beam, end, on) ? 1 : 0;
            } catch (ArrayIndexOutOfBoundsException e) {
                got = 99;
            }
            due("hinge(" + beam + ", " + end + ", " + on + ")", got, model.hinge(beam, end, on));
        }

        void callAt() {
            int row = edge(0, 7) % 8;
            if (model.rowCount() > 0 && random.nextInt(10) > 0) {
                row = random.nextInt(model.rowCount());
            }
            int beam = edge(0, model.beams() - 1);
            int place = edge(0, 4);
            int times = 1 + random.nextInt(4);
            for (int i = 0; i < times && calls < CALLS; i++) {
                checkAt(row, beam, place, somePart());
            }
        }

        void checkAt(int row, int beam, int place, int part) {
            long want = model.at(row, beam, place, part);
            values += want > 0 ? 1 : 0;
            longParts += part >= 2 && want > 0 ? 1 : 0;
            due("at(" + row + ", " + beam + ", " + place + ", " + part + ")",
                program.at(row, beam, place, part), want);
        }

        void callArea() {
            int row = edge(0, 7) % 8;
            if (model.rowCount() > 0 && random.nextInt(10) > 0) {
                row = random.nextInt(model.rowCount());
            }
            int sign = random.nextInt(12) == 0 ? random.nextInt(5) - 2 : random.nextInt(2) * 2 - 1;
            int part = somePart();
            long want = model.area(row, sign, part);
            longParts += part >= 2 && want > 0 ? 1 : 0;
            due("area(" + row + ", " + sign + ", " + part + ")", program.area(row, sign, part), want);
            if (model.area(row, 1, -1) == 1 && model.area(row, -1, -1) == 1) {
                crossings++;
            }
        }

        void callMove() {
            int node = edge(0, 3);
            long above = random.nextInt(10) == 0 ? random.nextInt(3) * 1001L - 1001 : random.nextInt(2001) - 1000;
            long below = random.nextInt(10) == 0 ? random.nextInt(3) * 1001L - 1001 : 1 + random.nextInt(1000);
            int times = 1 + random.nextInt(3);
            for (int i = 0; i < times && calls < CALLS; i++) {
                int part = somePart();
                due("move(" + node + ", " + above + ", " + below + ", " + part + ")",
                    program.move(node, above, below, part), model.move(node, above, below, part));
            }
        }

        String someText() {
            int dice = random.nextInt(5);
            return dice == 0 ? brokenText() : dice == 1 ? anyText() : steadyText();
        }

        void readText(String text) {
            for (int i = 0; i < text.length() && calls < CALLS; i++) {
                int u = text.charAt(i);
                due("unit(" + u + ")", program.unit(u) ? 1 : 0, model.unit(u) ? 1 : 0);
            }
            if (calls < CALLS) {
                due("read() of " + text, program.read(), model.read());
            }
        }

        String number() {
            return String.valueOf(1 + random.nextInt(12));
        }

        String beam(int hinged) {
            return (random.nextInt(8) < hinged ? "h" : "") + number() + "x" + number()
                + (random.nextInt(8) < hinged ? "h" : "");
        }

        String anyText() {
            StringBuilder text = new StringBuilder().append(".STF".charAt(random.nextInt(4)));
            int many = 1 + random.nextInt(3);
            for (int k = 0; k < many; k++) {
                text.append(beam(3)).append(".STF".charAt(random.nextInt(4)));
            }
            return text.toString();
        }

        String steadyText() {
            StringBuilder text = new StringBuilder().append("SFF.".charAt(random.nextInt(4)));
            int many = 1 + random.nextInt(3);
            for (int k = 0; k < many; k++) {
                text.append(beam(1)).append("SSFT.".charAt(random.nextInt(5)));
            }
            return text.toString();
        }

        /** Nodes that are held little, lengths and stiffnesses without common divisors: long fractions. */
        String longText() {
            String[] numbers = {"7", "9", "11", "5", "12", "8"};
            int turn = random.nextInt(6);
            StringBuilder text = new StringBuilder(random.nextBoolean() ? "S" : "F");
            for (int k = 0; k < 3; k++) {
                text.append(numbers[(turn + k) % 6]).append('x').append(numbers[(turn + 2 * k + 3) % 6]);
                text.append(".SS.".charAt(random.nextInt(4)));
            }
            text.setCharAt(text.length() - 1, "SF".charAt(random.nextInt(2)));
            return text.toString();
        }

        String brokenText() {
            StringBuilder text = new StringBuilder(anyText());
            String odd = ".STFh0123456789x ~ab\n\u007f";
            int changes = 1 + random.nextInt(3);
            for (int i = 0; i < changes; i++) {
                char sign = odd.charAt(random.nextInt(odd.length()));
                int here = random.nextInt(text.length() + 1);
                int dice = random.nextInt(4);
                if (dice == 0) {
                    text.insert(here, sign);
                } else if (dice == 1 && here < text.length()) {
                    text.deleteCharAt(here);
                } else if (dice == 2 && here < text.length()) {
                    text.setCharAt(here, sign);
                } else {
                    text.setLength(here);
                }
            }
            if (random.nextInt(12) == 0) {
                text.append("F12x12F12x12F12x12F12x12F12x12F12x12F12x12F12x12F12x12F");
            }
            return text.toString();
        }
    }

    /** The document, as it stands. */
    private static final class Model {
        static final Pattern TEXT = Pattern.compile("[.STF](h?[1-9][0-9]?x[1-9][0-9]?h?[.STF]){1,3}");
        static final Pattern NUMBER = Pattern.compile("[1-9][0-9]?");
        final StringBuilder collected = new StringBuilder();
        final List<int[]> rows = new ArrayList<>();
        int m;
        int[] span;
        int[] stiff;
        boolean[] pin;
        boolean[] high;
        boolean[] stayed;
        long[] sunk;
        Solved solved;

        Model() {
            take("F1x1.");
        }

        String told() {
            return "span " + Arrays.toString(span) + " stiff " + Arrays.toString(stiff) + " pin "
                + Arrays.toString(pin) + " high " + Arrays.toString(high) + " stayed " + Arrays.toString(stayed)
                + " sunk " + Arrays.toString(sunk);
        }

        int beams() {
            return m;
        }

        int rowCount() {
            return rows.size();
        }

        boolean unit(int u) {
            if (u < 32 || u > 126 || collected.length() == 50) {
                return false;
            }
            collected.append((char) u);
            return true;
        }

        int read() {
            String text = collected.toString();
            collected.setLength(0);
            int bad = firstWrong(text);
            if (bad >= 0) {
                return -1 - bad;
            }
            take(text);
            return m;
        }

        static int firstWrong(String text) {
            int end = 0;
            while (end < text.length() && canGoOn(text.substring(0, end + 1))) {
                end++;
            }
            Matcher numbers = NUMBER.matcher(text.substring(0, end));
            while (numbers.find()) {
                if (Integer.parseInt(numbers.group()) > 12) {
                    return numbers.start();
                }
            }
            return TEXT.matcher(text).matches() ? -1 : end;
        }

        static boolean canGoOn(String start) {
            Matcher matcher = TEXT.matcher(start);
            return matcher.matches() || matcher.hitEnd();
        }

        void take(String text) {
            String[] nodes = text.split("[^.STF]+");
            String[] between = text.substring(1).split("[.STF]");
            m = nodes.length - 1;
            span = new int[m];
            stiff = new int[m];
            pin = new boolean[2 * m];
            high = new boolean[m + 1];
            stayed = new boolean[m + 1];
            sunk = new long[m + 1];
            for (int i = 0; i <= m; i++) {
                high[i] = "SF".contains(nodes[i]);
                stayed[i] = "TF".contains(nodes[i]);
            }
            for (int k = 0; k < m; k++) {
                pin[2 * k] = between[k].startsWith("h");
                pin[2 * k + 1] = between[k].endsWith("h");
                String[] numbers = between[k].replace("h", "").split("x");
                span[k] = Integer.parseInt(numbers[0]);
                stiff[k] = Integer.parseInt(numbers[1]);
            }
            rows.clear();
            solved = null;
        }

        long member(int k, long length, long e) {
            if (k < 0 || k >= m) {
                return 99;
            }
            if (length < 1 || length > 12 || e < 1 || e > 12) {
                return 0;
            }
            span[k] = (int) length;
            stiff[k] = (int) e;
            solved = null;
            return 1;
        }

        long support(int node, int axis, boolean on) {
            if (node < 0 || node > m) {
                return 99;
            }
            if (axis < 0 || axis > 1) {
                return 0;
            }
            boolean[] which = axis == 0 ? high : stayed;
            boolean before = which[node];
            which[node] = on;
            if (axis == 0 && !on) {
                sunk[node] = 0;
            }
            solved = null;
            return before ? 1 : 0;
        }

        long hinge(int k, int end, boolean on) {
            if (k < 0 || k >= m) {
                return 99;
            }
            if (end < 0 || end > 1) {
                return 0;
            }
            boolean before = pin[2 * k + end];
            pin[2 * k + end] = on;
            solved = null;
            return before ? 1 : 0;
        }

        Solved solved() {
            if (solved == null) {
                solved = new Solved(this);
            }
            return solved;
        }

        int solve() {
            return solved().loose.size();
        }

        int loose(int k) {
            List<Integer> found = solved().loose;
            return k >= 0 && k < found.size() ? found.get(k) : -1;
        }

        int row(int what, int k, int place) {
            boolean fits = what == 3 ? k >= 0 && k <= m && high[k] && place == 0
                : what >= 0 && what <= 2 && k >= 0 && k < m && place >= 0 && place <= 4;
            if (!fits || rows.size() == 8) {
                return -1;
            }
            rows.add(new int[] {what, k, place});
            return rows.size() - 1;
        }

        boolean hasValues(int row) {
            return row >= 0 && row < rows.size() && solve() == 0
                && (rows.get(row)[0] != 3 || high[rows.get(row)[1]]);
        }

        long at(int row, int k, int place, int part) {
            boolean fits = hasValues(row) && k >= 0 && k < m && place >= 0 && place <= 4;
            return tell(fits ? solved().value(rows.get(row), k, place) : null, part);
        }

        long area(int row, int sign, int part) {
            boolean fits = hasValues(row) && (sign == 1 || sign == -1);
            return tell(fits ? areaOf(rows.get(row), sign) : null, part);
        }

        Q areaOf(int[] row, int sign) {
            Q sum = Q.ZERO;
            for (int k = 0; k < m; k++) {
                for (int p = 0; p < 4; p++) {
                    Q a = solved().value(row, k, p).times(Q.of(sign));
                    Q b = solved().value(row, k, p + 1).times(Q.of(sign));
                    sum = sum.plus(positive(a, b).times(Q.of(span[k])).over(Q.of(8)));
                }
            }
            return sum;
        }

        /** Twice the mean height of what lies above 0. */
        static Q positive(Q a, Q b) {
            if (a.signum() <= 0 && b.signum() <= 0) {
                return Q.ZERO;
            }
            if (a.signum() >= 0 && b.signum() >= 0) {
                return a.plus(b);
            }
            Q top = a.signum() > 0 ? a : b;
            Q low = a.signum() > 0 ? b : a;
            return top.times(top).over(top.minus(low));
        }

        boolean turned(int row) {
            if (row < 0 || row >= rows.size() || rows.get(row)[0] != 2 || solve() > 0) {
                return false;
            }
            boolean same = true;
            int[] place = rows.get(row);
            for (int k = 0; k < m; k++) {
                for (int p = 0; p <= 4; p++) {
                    Q there = solved().value(new int[] {2, k, p}, place[1], place[2]);
                    same &= solved().value(place, k, p).equals(there);
                }
            }
            return same;
        }

        boolean sums() {
            boolean same = solve() == 0;
            for (int k = 0; same && k < m; k++) {
                for (int p = 0; p <= 4; p++) {
                    Q sum = Q.ZERO;
                    for (int i = 0; i <= m; i++) {
                        sum = high[i] ? sum.plus(solved().value(new int[] {3, i, 0}, k, p)) : sum;
                    }
                    same &= sum.equals(Q.ONE);
                }
            }
            return same;
        }

        boolean settled(int node, long v) {
            if (node < 0 || node > m || !high[node] || v < -1000 || v > 1000) {
                return false;
            }
            sunk[node] = v;
            solved = null;
            return true;
        }

        long move(int node, long above, long below, int part) {
            boolean fits = node >= 0 && node <= m && above >= -1000 && above <= 1000 && below >= 1 && below <= 1000
                && solve() == 0;
            return tell(fits ? solved().settledMove(node).times(Q.of(above)).over(Q.of(below)) : null, part);
        }

        int count(int what) {
            int hinges = 0;
            for (boolean one : pin) {
                hinges += one ? 1 : 0;
            }
            int held = 0;
            for (boolean one : high) {
                held += one ? 1 : 0;
            }
            int[] answers = {m, rows.size(), hinges, held, Arrays.stream(span).sum()};
            return what >= 0 && what < answers.length ? answers[what] : -1;
        }

        static long tell(Q value, int part) {
            if (part < -1 || value == null) {
                return part == -1 ? -2 : -1;
            }
            if (part == -1) {
                return value.signum();
            }
            String digits = (part % 2 == 0 ? value.up.abs() : value.low).toString();
            int group = part / 2;
            if (group > digits.length() / 18) {
                return 0;
            }
            int end = digits.length() - 18 * group;
            return end <= 0 ? 0 : Long.parseLong(digits.substring(Math.max(0, end - 18), end));
        }
    }

    /** All equations of a row of beams, with one right side for each load and one for what is settled. */
    private static final class Solved {
        final Model model;
        final int m;
        final int unknowns;
        final int sides;
        final List<Q[]> equations = new ArrayList<>();
        final List<Integer> loose = new ArrayList<>();
        final int[] pivotOf;

        Solved(Model model) {
            this.model = model;
            this.m = model.m;
            this.unknowns = 4 * m + 2 * (m + 1);
            this.sides = 5 * m + 1;
            this.pivotOf = new int[unknowns];
            for (int k = 0; k < m; k++) {
                beamEquations(k);
            }
            for (int i = 0; i <= m; i++) {
                heightEquation(i);
                turnEquation(i);
            }
            eliminate();
            findLoose();
        }

        Q[] blank() {
            Q[] equation = new Q[unknowns + sides];
            Arrays.fill(equation, Q.ZERO);
            return equation;
        }

        // unknowns: 4k .. of beam k at its left end: w, w', moment, shear; then moves; then turns
        int moveOf(int node) {
            return 4 * m + node;
        }

        int turnOf(int node) {
            return 4 * m + m + 1 + node;
        }

        int sideOf(int k, int p) {
            return unknowns + 5 * k + p;
        }

        int settledSide() {
            return unknowns + 5 * m;
        }

        Q loadDistance(int k, int p) {
            return Q.of(model.span[k]).times(Q.of(p)).over(Q.of(4));
        }

        /** What a state at x is, as a combination of the unknowns (and, for a load within, sides). */
        Q[] deflection(int k, Q x) {
            Q e = Q.of(model.stiff[k]);
            Q[] sum = blank();
            sum[4 * k] = Q.ONE;
            sum[4 * k + 1] = x;
            sum[4 * k + 2] = x.times(x).over(Q.of(2)).over(e).negated();
            sum[4 * k + 3] = x.times(x).times(x).over(Q.of(6)).over(e).negated();
            for (int p = 1; p < 4; p++) {
                Q past = x.minus(loadDistance(k, p));
                if (past.signum() > 0) {
                    sum[sideOf(k, p)] = past.times(past).times(past).over(Q.of(6)).over(e);
                }
            }
            return sum;
        }

        Q[] slope(int k, Q x) {
            Q e = Q.of(model.stiff[k]);
            Q[] sum = blank();
            sum[4 * k + 1] = Q.ONE;
            sum[4 * k + 2] = x.over(e).negated();
            sum[4 * k + 3] = x.times(x).over(Q.of(2)).over(e).negated();
            for (int p = 1; p < 4; p++) {
                Q past = x.minus(loadDistance(k, p));
                if (past.signum() > 0) {
                    sum[sideOf(k, p)] = past.times(past).over(Q.of(2)).over(e);
                }
            }
            return sum;
        }

        Q[] moment(int k, Q x) {
            Q[] sum = blank();
            sum[4 * k + 2] = Q.ONE;
            sum[4 * k + 3] = x;
            for (int p = 1; p < 4; p++) {
                Q past = x.minus(loadDistance(k, p));
                if (past.signum() > 0) {
                    sum[sideOf(k, p)] = past.negated();
                }
            }
            return sum;
        }

        Q[] shear(int k, Q x) {
            Q[] sum = blank();
            sum[4 * k + 3] = Q.ONE;
            for (int p = 1; p < 4; p++) {
                if (x.minus(loadDistance(k, p)).signum() > 0) {
                    sum[sideOf(k, p)] = Q.of(-1);
                }
            }
            return sum;
        }

        /** Constants of the sides stand on the left of an equation; they go to its right side. */
        void addEquation(Q[] sum) {
            for (int i = unknowns; i < sum.length; i++) {
                sum[i] = sum[i].negated();
            }
            equations.add(sum);
        }

        static Q[] minus(Q[] a, Q[] b) {
            Q[] sum = new Q[a.length];
            for (int i = 0; i < a.length; i++) {
                sum[i] = a[i].minus(b[i]);
            }
            return sum;
        }

        Q[] single(int unknown) {
            Q[] sum = blank();
            sum[unknown] = Q.ONE;
            return sum;
        }

        void beamEquations(int k) {
            for (int end = 0; end < 2; end++) {
                Q x = Q.of(end * model.span[k]);
                addEquation(minus(deflection(k, x), single(moveOf(k + end))));
                if (model.pin[2 * k + end]) {
                    addEquation(moment(k, x));
                } else {
                    addEquation(minus(slope(k, x), single(turnOf(k + end))));
                }
            }
        }

        void heightEquation(int i) {
            if (model.high[i]) {
                Q[] sum = single(moveOf(i));
                sum[settledSide()] = Q.of(-model.sunk[i]);
                addEquation(sum);
            } else {
                addEquation(reaction(i));
            }
        }

        Q[] reaction(int i) {
            Q[] right = i < m ? shear(i, Q.ZERO) : blank();
            Q[] left = i > 0 ? shear(i - 1, Q.of(model.span[i - 1])) : blank();
            Q[] sum = minus(right, left);
            if (i < m) {
                sum[sideOf(i, 0)] = sum[sideOf(i, 0)].plus(Q.ONE);
            }
            if (i > 0) {
                sum[sideOf(i - 1, 4)] = sum[sideOf(i - 1, 4)].plus(Q.ONE);
            }
            return sum;
        }

        boolean hasTurn(int i) {
            return i < m && !model.pin[2 * i] || i > 0 && !model.pin[2 * i - 1];
        }

        void turnEquation(int i) {
            if (model.stayed[i] || !hasTurn(i)) {
                addEquation(single(turnOf(i)));
                return;
            }
            Q[] right = i < m && !model.pin[2 * i] ? moment(i, Q.ZERO) : blank();
            Q[] left = i > 0 && !model.pin[2 * i - 1] ? moment(i - 1, Q.of(model.span[i - 1])) : blank();
            addEquation(minus(right, left));
        }

        void eliminate() {
            Arrays.fill(pivotOf, -1);
            int done = 0;
            for (int c = 0; c < unknowns; c++) {
                int found = done;
                while (found < equations.size() && equations.get(found)[c].signum() == 0) {
                    found++;
                }
                if (found == equations.size()) {
                    continue;
                }
                Q[] pivot = equations.get(found);
                equations.set(found, equations.get(done));
                equations.set(done, pivot);
                Q by = pivot[c];
                for (int i = c; i < pivot.length; i++) {
                    pivot[i] = pivot[i].over(by);
                }
                for (int r = 0; r < equations.size(); r++) {
                    if (r != done) {
                        subtract(equations.get(r), pivot, c);
                    }
                }
                pivotOf[c] = done;
                done++;
            }
        }

        static void subtract(Q[] from, Q[] pivot, int c) {
            Q often = from[c];
            if (often.signum() == 0) {
                return;
            }
            for (int i = c; i < from.length; i++) {
                if (pivot[i].signum() != 0) {
                    from[i] = from[i].minus(pivot[i].times(often));
                }
            }
        }

        boolean canChange(int unknown) {
            if (pivotOf[unknown] < 0) {
                return true;
            }
            for (int c = 0; c < unknowns; c++) {
                if (pivotOf[c] < 0 && equations.get(pivotOf[unknown])[c].signum() != 0) {
                    return true;
                }
            }
            return false;
        }

        void findLoose() {
            for (int i = 0; i <= m; i++) {
                if (canChange(moveOf(i)) || hasTurn(i) && canChange(turnOf(i))) {
                    loose.add(i);
                }
            }
        }

        Q solution(int unknown, int side) {
            return equations.get(pivotOf[unknown])[side];
        }

        Q evaluate(Q[] sum, int side) {
            Q value = sum[side];
            for (int c = 0; c < unknowns; c++) {
                if (sum[c].signum() != 0) {
                    value = value.plus(sum[c].times(solution(c, side)));
                }
            }
            return value;
        }

        Q value(int[] row, int k, int p) {
            int side = sideOf(k, p);
            if (row[0] == 3) {
                return evaluate(reaction(row[1]), side);
            }
            Q x = loadDistance(row[1], row[2]);
            Q[] sum = row[0] == 0 ? moment(row[1], x) : row[0] == 1 ? shear(row[1], x) : deflection(row[1], x);
            return evaluate(sum, side);
        }

        Q settledMove(int node) {
            return solution(moveOf(node), settledSide());
        }
    }

    /** A fraction in least terms. */
    private static final class Q {
        static final Q ZERO = new Q(BigInteger.ZERO, BigInteger.ONE);
        static final Q ONE = new Q(BigInteger.ONE, BigInteger.ONE);
        final BigInteger up;
        final BigInteger low;

        Q(BigInteger a, BigInteger b) {
            BigInteger common = a.gcd(b);
            common = b.signum() < 0 ? common.negate() : common;
            up = a.divide(common);
            low = b.divide(common);
        }

        static Q of(long value) {
            return new Q(BigInteger.valueOf(value), BigInteger.ONE);
        }

        int signum() {
            return up.signum();
        }

        Q plus(Q other) {
            return new Q(up.multiply(other.low).add(other.up.multiply(low)), low.multiply(other.low));
        }

        Q negated() {
            return new Q(up.negate(), low);
        }

        Q minus(Q other) {
            return plus(other.negated());
        }

        Q times(Q other) {
            return new Q(up.multiply(other.up), low.multiply(other.low));
        }

        Q over(Q other) {
            return new Q(up.multiply(other.low), low.multiply(other.up));
        }

        @Override
        public boolean equals(Object other) {
            return other instanceof Q q && up.equals(q.up) && low.equals(q.low);
        }

        @Override
        public int hashCode() {
            return up.hashCode() * 31 + low.hashCode();
        }
    }
}
