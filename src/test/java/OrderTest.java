import java.util.ArrayList;
import java.util.List;

/**
 * Promises 10, 11 and 15: what a fraction's parts are does not hang on which one was asked right before
 * it. All pairs of values, areas and moves are asked one behind the other, none beyond an object's 512th call.
 */
public final class OrderTest {
    private static final String TEXT = "S3x5S7x11.2x3F";
    private static final int CALLS = 512;
    private static final int CALLS_OF_A_PAIR = 3;
    private static final int[][] ROWS = {
        {0, 0, 1}, {1, 0, 3}, {2, 0, 2}, {3, 1, 0}, {0, 1, 2}, {1, 2, 4}, {2, 2, 1}, {2, 1, 3}};
    private static final long[] ABOVE = {-1000, -999, -500, -499, 0, 1, 500, 501, 999, 1000};
    private static final long[] BELOW = {1, 2, 1000};

    private static int wrong = 0;
    private static int calls = 0;

    private OrderTest() {
    }

    private interface Ask {
        long part(InfluenceRows x, int number);
    }

    public static void main(String[] args) {
        List<Ask> asks = asks();
        long[][] want = alone(asks);
        InfluenceRows x = made();
        for (int first = 0; first < asks.size(); first++) {
            for (int next = 0; next < asks.size(); next++) {
                if (calls + CALLS_OF_A_PAIR > CALLS) {
                    x = made();
                }
                asks.get(first).part(x, 0);
                due(first, next, asks.get(next).part(x, 0), want[next][0]);
                due(first, next, asks.get(next).part(x, 1), want[next][1]);
                calls += CALLS_OF_A_PAIR;
            }
        }
        System.out.println("order: " + asks.size() + " fractions, each behind each, " + wrong + " wrong");
        if (wrong > 0) {
            System.exit(1);
        }
    }

    private static InfluenceRows made() {
        InfluenceRows x = new InfluenceRows();
        for (int i = 0; i < TEXT.length(); i++) {
            x.unit(TEXT.charAt(i));
        }
        x.read();
        for (int[] row : ROWS) {
            x.row(row[0], row[1], row[2]);
        }
        x.settled(0, 7);
        x.settled(1, -11);
        x.settled(3, 13);
        calls = TEXT.length() + 1 + ROWS.length + 3;
        return x;
    }

    private static List<Ask> asks() {
        List<Ask> asks = new ArrayList<>();
        for (int i = 0; i < ROWS.length; i++) {
            int row = i;
            for (int k = 0; k < 15; k++) {
                int beam = k / 5;
                int place = k % 5;
                asks.add((x, part) -> x.at(row, beam, place, part));
            }
            asks.add((x, part) -> x.area(row, 1, part));
            asks.add((x, part) -> x.area(row, -1, part));
        }
        for (int i = 0; i < 4; i++) {
            int node = i;
            for (long above : ABOVE) {
                for (long below : BELOW) {
                    asks.add((x, part) -> x.move(node, above, below, part));
                }
            }
        }
        return asks;
    }

    /** What each one tells of an object that was asked nothing before. */
    private static long[][] alone(List<Ask> asks) {
        long[][] told = new long[asks.size()][2];
        for (int i = 0; i < told.length; i++) {
            told[i][0] = asks.get(i).part(made(), 0);
            told[i][1] = asks.get(i).part(made(), 1);
            if (told[i][1] < 1) {
                wrong++;
                System.out.println("order: ask " + i + " has no lower part");
            }
        }
        return told;
    }

    private static void due(int first, int next, long got, long want) {
        if (got != want) {
            wrong++;
            if (wrong < 20) {
                System.out.println("order: ask " + next + " behind ask " + first + " answered " + got + ", due is " + want);
            }
        }
    }
}
