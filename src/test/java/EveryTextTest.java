import java.util.regex.Matcher;
import java.util.regex.Pattern;

/**
 * Promise 3, "how many beams" and "its first sign that is wrong": every short text of some signs, and
 * long texts with every sign changed, put in or left out, against a regular expression.
 */
public final class EveryTextTest {
    private static final String SIGNS = ".Fhx0139";
    private static final int LONGEST = 6;
    private static final int MOST_CALLS = 512;
    private static final Pattern RIGHT = Pattern.compile("[.STF](?:h?[1-9][0-9]?x[1-9][0-9]?h?[.STF]){1,3}");
    private static final Pattern NUMBER = Pattern.compile("[0-9]+");
    private static final String[] LONG = {"Fh12x10hS9x1.h3x11T", "S1x1S", "T10x9h.h12x2F", "Fh12x12hFh11x11hFh10x10hF"};

    private static InfluenceRows program = new InfluenceRows();
    private static int calls = 0;
    private static int texts = 0;
    private static int taken = 0;
    private static int wrong = 0;

    public static void main(String[] args) {
        everyShort(new StringBuilder());
        for (String text : LONG) {
            everyChange(text);
        }
        System.out.println("texts: " + texts + ", of these " + taken + " right ones, " + wrong + " wrong answers");
        if (wrong > 0 || texts < 250_000 || taken < 100) {
            System.exit(1);
        }
    }

    private static void everyShort(StringBuilder text) {
        look(text.toString());
        for (int i = 0; i < SIGNS.length() && text.length() < LONGEST; i++) {
            text.append(SIGNS.charAt(i));
            everyShort(text);
            text.setLength(text.length() - 1);
        }
    }

    private static void everyChange(String text) {
        look(text);
        for (int i = 0; i <= text.length(); i++) {
            String before = text.substring(0, i);
            look(before);
            for (char sign = 32; sign <= 126; sign++) {
                look(before + sign + text.substring(i));
                if (i < text.length()) {
                    look(before + sign + text.substring(i + 1));
                }
            }
            if (i < text.length()) {
                look(before + text.substring(i + 1));
            }
        }
    }

    private static void look(String text) {
        if (calls + text.length() + 3 > MOST_CALLS) {
            program = new InfluenceRows();
            calls = 0;
        }
        calls += text.length() + 3;
        texts++;
        int before = program.count(4);
        for (int i = 0; i < text.length(); i++) {
            program.unit(text.charAt(i));
        }
        int want = due(text);
        taken += want > 0 ? 1 : 0;
        check(text, program.read(), want);
        check(text + " gives a length", program.count(4), want > 0 ? length(text) : before);
    }

    private static void check(String text, int got, int want) {
        if (got != want) {
            wrong++;
            System.out.println("text " + text + " answered " + got + ", due is " + want);
        }
    }

    private static int due(String text) {
        int first = firstWrong(text);
        Matcher number = NUMBER.matcher(text.substring(0, first));
        while (number.find()) {
            if (Integer.parseInt(number.group()) > 12) {
                return -1 - number.start();
            }
        }
        boolean right = RIGHT.matcher(text).matches();
        return right ? (int) text.chars().filter(c -> c == 'x').count() : -1 - first;
    }

    /** The first sign with which no right text can begin any more, whatever its numbers. */
    private static int firstWrong(String text) {
        for (int i = 0; i < text.length(); i++) {
            Matcher begun = RIGHT.matcher(text.substring(0, i + 1));
            if (!begun.matches() && !begun.hitEnd()) {
                return i;
            }
        }
        return text.length();
    }

    private static int length(String text) {
        int whole = 0;
        Matcher span = Pattern.compile("([0-9]+)x").matcher(text);
        while (span.find()) {
            whole += Integer.parseInt(span.group(1));
        }
        return whole;
    }
}
