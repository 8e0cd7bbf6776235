import java.util.ArrayList;
import java.util.List;

/**
 * Promises 7 and 8: every way to hold nodes and to put hinges, for three choices of lengths. A row that
 * moves without any load has straight beams alone, so its nodes' heights solve a few plain equations;
 * a node is loose if these leave its height open, or the slope of one of its ends without a hinge.
 * Promises 10 to 13 and 15 are asked whether they are refused then, and only then.
 */
public final class EveryRowTest {
    private static final String KINDS = ".STF";
    private static final int[][] LENGTHS = {{1, 1, 1}, {3, 7, 12}, {10, 5, 2}};

    private static int rows = 0;
    private static int looseRows = 0;
    private static int wrong = 0;

    public static void main(String[] args) {
        for (int[] lengths : LENGTHS) {
            for (int many = 1; many <= 3; many++) {
                for (int kinds = 0; kinds < 1 << 2 * (many + 1); kinds++) {
                    for (int hinges = 0; hinges < 1 << 2 * many; hinges++) {
                        new Held(lengths, many, kinds, hinges).look();
                    }
                }
            }
        }
        System.out.println("rows of beams: " + rows + ", of these " + looseRows + " loose, " + wrong + " wrong answers");
        if (wrong > 0 || rows != 3 * 17_472 || looseRows < 10_000) {
            System.exit(1);
        }
    }

    /** One row of beams: two bits for each node's kind, one for each end's hinge. */
    private static final class Held {
        private final int[] lengths;
        private final int many;
        private final int kinds;
        private final int hinges;
        private final List<long[]> equations = new ArrayList<>();

        Held(int[] lengths, int many, int kinds, int hinges) {
            this.lengths = lengths;
            this.many = many;
            this.kinds = kinds;
            this.hinges = hinges;
        }

        private boolean isHigh(int node) {
            return (kinds >> 2 * node & 1) != 0;
        }

        private boolean isStayed(int node) {
            return (kinds >> 2 * node & 2) != 0;
        }

        private boolean isFirm(int end) {
            return end >= 0 && end < 2 * many && (hinges >> end & 1) == 0;
        }

        private String text() {
            StringBuilder text = new StringBuilder().append(KINDS.charAt(kinds & 3));
            for (int k = 0; k < many; k++) {
                text.append(isFirm(2 * k) ? "" : "h").append(lengths[k]).append('x').append(k + 2)
                    .append(isFirm(2 * k + 1) ? "" : "h").append(KINDS.charAt(kinds >> 2 * (k + 1) & 3));
            }
            return text.toString();
        }

        private long[] height(int node) {
            long[] sum = new long[many + 1];
            sum[node] = 1;
            return sum;
        }

        /** The slope of a beam, times the length of another one. */
        private long[] slope(int beam, long times) {
            long[] sum = new long[many + 1];
            sum[beam] = -times;
            sum[beam + 1] = times;
            return sum;
        }

        private void writeEquations() {
            for (int node = 0; node <= many; node++) {
                if (isHigh(node)) {
                    equations.add(height(node));
                }
                for (int end = 2 * node - 1; end <= 2 * node; end++) {
                    if (isFirm(end) && isStayed(node)) {
                        equations.add(slope(end / 2, 1));
                    }
                }
                if (isFirm(2 * node - 1) && isFirm(2 * node)) {
                    long[] bend = slope(node - 1, lengths[node]);
                    long[] next = slope(node, lengths[node - 1]);
                    for (int i = 0; i <= many; i++) {
                        bend[i] -= next[i];
                    }
                    equations.add(bend);
                }
            }
        }

        private boolean isOpen(long[] sum) {
            List<long[]> more = new ArrayList<>(equations);
            more.add(sum);
            return rank(more) > rank(equations);
        }

        private boolean isLoose(int node) {
            boolean open = isOpen(height(node));
            for (int end = 2 * node - 1; end <= 2 * node; end++) {
                open = open || isFirm(end) && isOpen(slope(end / 2, 1));
            }
            return open;
        }

        void look() {
            writeEquations();
            List<Integer> loose = new ArrayList<>();
            for (int node = 0; node <= many; node++) {
                if (isLoose(node)) {
                    loose.add(node);
                }
            }
            rows++;
            looseRows += loose.isEmpty() ? 0 : 1;
            ask(loose);
        }

        private void ask(List<Integer> loose) {
            InfluenceRows program = new InfluenceRows();
            String text = text();
            for (int i = 0; i < text.length(); i++) {
                program.unit(text.charAt(i));
            }
            due("read", program.read(), many);
            due("solve", program.solve(), loose.size());
            for (int k = -1; k <= 5; k++) {
                due("loose(" + k + ")", program.loose(k), k >= 0 && k < loose.size() ? loose.get(k) : -1);
            }
            boolean firm = loose.isEmpty();
            program.row(2, many - 1, 3);
            due("turned", program.turned(0) ? 1 : 0, firm ? 1 : 0);
            due("sums", program.sums() ? 1 : 0, firm ? 1 : 0);
            due("at is refused", program.at(0, 0, 1, -1) == InfluenceRows.NONE ? 1 : 0, firm ? 0 : 1);
            due("area is refused", program.area(0, 1, 1) == InfluenceRows.BAD ? 1 : 0, firm ? 0 : 1);
            due("move is refused", program.move(many, 1, 1, 1) == InfluenceRows.BAD ? 1 : 0, firm ? 0 : 1);
        }

        private void due(String call, int got, int want) {
            if (got != want) {
                wrong++;
                System.out.println(text() + ": " + call + " answered " + got + ", due is " + want);
            }
        }

        private int rank(List<long[]> sums) {
            List<long[]> left = new ArrayList<>();
            for (long[] sum : sums) {
                left.add(sum.clone());
            }
            int found = 0;
            for (int column = 0; column <= many; column++) {
                int at = found;
                while (at < left.size() && left.get(at)[column] == 0) {
                    at++;
                }
                if (at < left.size()) {
                    long[] pivot = left.remove(at);
                    left.add(found, pivot);
                    found++;
                    clear(left, found, column, pivot);
                }
            }
            return found;
        }

        private void clear(List<long[]> left, int from, int column, long[] pivot) {
            for (int i = from; i < left.size(); i++) {
                long[] sum = left.get(i);
                long factor = sum[column];
                for (int j = 0; j <= many; j++) {
                    sum[j] = sum[j] * pivot[column] - pivot[j] * factor;
                }
            }
        }
    }
}
