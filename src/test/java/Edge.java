import java.io.IOException;
import java.io.UncheckedIOException;
import java.nio.file.Files;
import java.nio.file.Path;
import java.util.function.LongSupplier;

/**
 * What the tests of boundary cases share. Each sentence that names one is quoted as the document has it, in the
 * part of the document where it stands, and has a test of its own; a quotation that is not there is a fault, too.
 */
abstract class Edge {
    static final int NONE = -1, UNKNOWN = -101, OUTSIDE = -102, STATE = -103, FULL = -104;
    static final int LOW = Integer.MIN_VALUE, HIGH = Integer.MAX_VALUE;
    /** Ahead of the promises the document has its terms. */
    static final int TERMS = 0;
    static final int ALL = 0, HEDGE = 1, FIRST = 2, BEST = 3, WELL = 4, TOLD = 5;
    static final String NO_RAIN = "000000000000", ALL_ONES = "111111111111";
    private static final Path DOCUMENT = Path.of("../shared/DOC.md");

    private static String document;
    private static String heading;
    private static String sentence;
    private static int sentences = 0;
    private static int looks;
    private static int wrong = 0;

    static void holds(int promise, String quoted, Runnable test) {
        heading = promise == TERMS ? "Terms" : "Promise " + promise;
        sentence = quoted;
        looks = 0;
        sentences++;
        if (!partOfDocument(promise).contains(quoted)) complain("is not in the document");
        test.run();
        if (looks == 0) complain("is looked at by nothing");
    }

    private static String partOfDocument(int promise) {
        if (document == null) document = readDocument();
        int from = document.indexOf(promise == TERMS ? "## Terms" : "## Promise " + promise + ":");
        int to = document.indexOf(promise == TERMS ? "## Promise 1:" : "## ", from + 3);
        return from < 0 ? "" : document.substring(from, to < 0 ? document.length() : to);
    }

    private static String readDocument() {
        try {
            return Files.readString(DOCUMENT).replaceAll("\\s+", " ");
        } catch (IOException e) {
            throw new UncheckedIOException(e);
        }
    }

    private static void complain(String what) {
        wrong++;
        System.out.println(heading + ", \"" + sentence + "\": " + what);
    }

    static void due(String what, long got, long want) {
        looks++;
        if (got != want) complain(what + " answered " + got + ", due is " + want);
    }

    /** A refusal, and that it changes nothing that the object tells. */
    static void refused(HowBigTank x, String what, LongSupplier call, long want) {
        long before = x.digest();
        due(what, call.getAsLong(), want);
        due("what is told behind " + what, x.digest(), before);
    }

    static long word(String s) {
        long w = 0;
        for (int i = 0; i < s.length(); i++) w |= (long) s.charAt(i) << 8 * i;
        return w;
    }

    static HowBigTank put(HowBigTank x, String s) {
        for (int i = 0; i < s.length(); i += 8) x.letters(word(s.substring(i, Math.min(s.length(), i + 8))));
        return x;
    }

    static HowBigTank addYears(HowBigTank x, String... years) {
        for (String y : years) {
            put(x, y);
            if (x.year() < 0) complain("no year: " + y);
        }
        return x;
    }

    static HowBigTank of(String house, String... years) {
        HowBigTank x = put(new HowBigTank(), house);
        if (x.house() < 0) complain("no house: " + house);
        return addYears(x, years);
    }

    /** With one rule, of number 0. */
    static HowBigTank ruled(int kind, int n, String house, String... years) {
        HowBigTank x = of(house, years);
        if (x.rule(kind, n) != 0) complain("no rule of kind " + kind);
        return x;
    }

    /** With one TOLD, of number 0. */
    static HowBigTank told(String rule, String house, String... years) {
        HowBigTank x = put(of(house, years), rule);
        if (x.tell() != 0) complain("no rule: " + rule);
        return x;
    }

    /** What month() tells of the first year's months by rule 0, from month 0 on. */
    static void months(HowBigTank x, int what, int... want) {
        for (int m = 0; m < want.length; m++) due("month(0, 0, " + m + ", " + what + ")", x.month(0, 0, m, what), want[m]);
    }

    static void end() {
        System.out.println(wrong == 0 ? sentences + " sentences hold" : wrong + " answers are not as due");
        if (wrong != 0) System.exit(1);
    }
}
