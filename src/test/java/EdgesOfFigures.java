import java.math.BigInteger;
import java.util.ArrayList;
import java.util.List;

/** Boundary cases of readings, images, counts and the digest, promises 23 to 28, and of refusals. */
public final class EdgesOfFigures extends Edge {
    private static final String LEAKING = "a1s10l0w0k5p2q0;u1h0c1";

    private static void leaksAre(HowBigTank x, int year, int... want) {
        for (int what = 0; what < 5; what++) due("leaks(0, " + year + ", " + what + ")", x.leaks(0, year, what), want[what]);
    }

    private static void noneAgrees(HowBigTank x) {
        leaksAre(x, 0, 0, NONE, NONE, NONE, NONE);
    }

    private static void readings() {
        holds(23, "becomes a level (0 to 200; NONE: there is none): what it was (NONE)", () -> {
            HowBigTank x = new HowBigTank();
            due("none was", x.read(0, 0), NONE);
            due("0 was", x.read(0, 200), 0);
            due("200 was", x.read(0, 200), 200);
            due("200 was still", x.read(0, NONE), 200);
            due("none was again", x.read(0, NONE), NONE);
            due("none are", x.count(3), 0);
            due("0 is one", x.read(11, 0) + x.count(3), NONE + 1);
        });
        holds(23, "UNKNOWN: month; OUTSIDE.", () -> {
            HowBigTank x = new HowBigTank();
            due("MONTH 0", x.read(0, 7), NONE);
            due("MONTH 11", x.read(11, 8), NONE);
            for (int m : new int[] {-1, 12, LOW, HIGH}) refused(x, "month " + m, () -> x.read(m, 201), UNKNOWN);
            for (int l : new int[] {-2, 201, LOW, HIGH}) refused(x, "level " + l, () -> x.read(0, l), OUTSIDE);
            due("MONTH 0 stays", x.read(0, NONE), 7);
        });
        holds(TERMS, "READINGS: of some MONTHS the level at its end.", () -> {
            HowBigTank x = ruled(ALL, 0, LEAKING, NO_RAIN);
            leaksAre(x, 0, 109, 0, 9, 0, 11);
            x.read(0, 9);
            leaksAre(x, 0, 1 + 9 * 11, 0, 9, 0, 11);
            x.read(0, 10);
            noneAgrees(x);
            x.read(0, NONE);
            for (int m = 0; m < 12; m++) x.read(m, Math.max(0, 10 - 2 * (m + 1)));
            leaksAre(x, 0, 1, 1, 1, 0, 0);
            x.read(11, 1);
            noneAgrees(x);
            x.read(11, 0);
            x.read(0, 7);
            noneAgrees(x);
        });
    }

    private static void leaks() {
        holds(TERMS, "from level SIZE (as if it had rained ahead), with no LEAK but one of L (0 to 9) from MONTH m (0 to 11) on", () -> {
            HowBigTank x = ruled(ALL, 0, "a1s200l0w0k9;u1h0c1", NO_RAIN, "010000000000");
            x.read(11, 200 - 12);
            leaksAre(x, 0, 1, 0, 0, 0, 0);
            due("the HOUSE's own LEAK stays", x.houseTold(4), 9);
            x.read(11, 200 - 12 - 9 * 12);
            leaksAre(x, 0, 1, 9, 9, 0, 0);
            x.read(11, 200 - 12 - 10 * 12);
            noneAgrees(x);
            x.read(11, 200 - 12 - 9);
            // 9 from MONTH 11, 3 from MONTH 9, 1 from MONTH 3 on.
            leaksAre(x, 0, 3, 1, 9, 3, 11);
            x.read(10, 200 - 11);
            leaksAre(x, 0, 1, 9, 9, 11, 11);
            // From level SIZE at each YEAR; there is place for the RAIN of MONTH 1.
            x.read(10, 200 - 10);
            x.read(11, 200 - 11);
            leaksAre(x, 1, 1, 0, 0, 0, 0);
            noneAgrees(x);
            due("its RUN ends lower", x.month(0, 1, 11, 5), 0);
            x.change(1, 3);
            for (int m = 0; m < 12; m++) x.read(m, NONE);
            x.read(1, 0);
            // Of 3 two are drawn; any LEAK from MONTH 0 or 1 on takes the third, and no level is below 0.
            leaksAre(x, 0, 9 * 2, 1, 9, 0, 1);
        });
        holds(TERMS, "Of L 0 m 0 alone is looked at.", () -> {
            HowBigTank x = ruled(ALL, 0, LEAKING, NO_RAIN);
            due("of all pairs", x.leaks(0, 0, 0), 1 + 9 * 12);
            x.read(11, 0);
            due("of all that end empty", x.leaks(0, 0, 0), 1 + 9 * 12);
            x.read(8, 1);
            // No LEAK up to MONTH 8: none at all, or one from MONTH 9, 10, 11 on.
            leaksAre(x, 0, 1 + 9 * 3, 0, 9, 0, 11);
        });
        holds(24, "(NONE: there are none)", () -> {
            HowBigTank x = ruled(ALL, 0, LEAKING, NO_RAIN);
            x.read(3, 200);
            noneAgrees(x);
            x.read(3, 10);
            noneAgrees(x);
        });
        holds(24, "UNKNOWN: rule, year; STATE: no HOUSE, or it is a BEST; OUTSIDE.", () -> {
            HowBigTank x = new HowBigTank();
            refused(x, "no RULE, no YEAR", () -> x.leaks(0, 0, 5), UNKNOWN);
            x.rule(ALL, 0);
            x.rule(BEST, 0);
            refused(x, "no YEAR", () -> x.leaks(0, 0, 5), UNKNOWN);
            addYears(x, NO_RAIN, NO_RAIN);
            refused(x, "no HOUSE", () -> x.leaks(0, 1, 5), STATE);
            put(x, LEAKING).house();
            refused(x, "a BEST", () -> x.leaks(1, 1, 0), STATE);
            refused(x, "a BEST, and what", () -> x.leaks(1, 1, 5), STATE);
            for (int r : new int[] {-1, 2, 8, LOW, HIGH}) refused(x, "rule " + r, () -> x.leaks(r, 0, 5), UNKNOWN);
            for (int y : new int[] {-1, 2, 8, LOW, HIGH}) refused(x, "year " + y, () -> x.leaks(1, y, 5), UNKNOWN);
            for (int w : new int[] {-1, 5, LOW, HIGH}) refused(x, "what " + w, () -> x.leaks(0, 1, w), OUTSIDE);
        });
        holds(24, "Of all L and m by which it AGREES", () -> {
            HowBigTank x = ruled(WELL, 200, "a1s10l0w0k5p2q0;u1h0c1", NO_RAIN);
            x.read(1, 8);
            // 9 behind MONTH 0 by no LEAK or 2; in MONTH 1 2 leak, 2 are pumped, 1 is drawn.
            leaksAre(x, 0, 2, 2, 2, 0, 1);
            HowBigTank y = told("0,0,0,0,0,0,0,0,0,0,0,0", "a1s10l0w0;u1h0c1", NO_RAIN);
            y.read(0, 10);
            y.read(11, 9);
            leaksAre(y, 0, 1, 1, 1, 11, 11);
            HowBigTank z = ruled(HEDGE, 9, "a1s10l0w0;u4h0c1", NO_RAIN);
            z.read(0, 6);
            z.read(1, 4);
            leaksAre(z, 0, 1 + 9 * 10, 0, 9, 0, 11);
        });
    }

    private static HowBigTank withImage() {
        HowBigTank x = ruled(HEDGE, 3, "a1s2l3w4k5p1q6;u1h2c3;u1h0c1", "123456789012", NO_RAIN);
        x.read(0, 1);
        x.read(11, 200);
        due("two YEARS", x.image(), 2);
        return x;
    }

    private static void images() {
        holds(25, "An IMAGE is kept (one; the latest): how many YEARS. STATE: there is no HOUSE.", () -> {
            HowBigTank x = addYears(new HowBigTank(), NO_RAIN);
            refused(x, "no HOUSE", x::image, STATE);
            refused(x, "none was kept", x::restore, STATE);
            put(x, LEAKING).house();
            due("one YEAR", x.image(), 1);
            addYears(x, ALL_ONES);
            due("two YEARS", x.image(), 2);
            x.change(0, 9);
            due("the latest", x.restore(), 2);
            due("its YEAR", x.rain(1, 0), 1);
            due("it stays kept", x.restore(), 2);
            due("no YEAR", of(LEAKING).image(), 0);
            HowBigTank y = addYears(of(LEAKING), NO_RAIN, NO_RAIN, NO_RAIN, NO_RAIN, NO_RAIN, NO_RAIN, NO_RAIN, ALL_ONES);
            due("eight YEARS", y.image() + y.restore(), 16);
            due("the eighth", y.rain(7, 11), 1);
        });
        holds(TERMS, "An IMAGE keeps the HOUSE's numbers, YEARS, READINGS.", () -> {
            HowBigTank x = withImage();
            long kept = x.digest();
            for (int what = 0; what < 7; what++) x.change(what, what == 0 ? 2 : 0);
            addYears(x, ALL_ONES);
            x.read(0, NONE);
            x.read(5, 5);
            x.read(11, 0);
            due("two YEARS", x.restore(), 2);
            due("all is as it was", x.digest(), kept);
            due("the third YEAR is gone", x.rain(2, 0), UNKNOWN);
            due("the next is the third", put(x, NO_RAIN).year(), 2);
        });
        holds(26, "It goes on from the IMAGE: how many YEARS.", () -> {
            HowBigTank x = withImage();
            x.rule(FIRST, 0);
            put(x, "abc");
            x.share(1, 1, 1);
            x.hedge();
            x.change(0, 20);
            x.restore();
            due("RULES stay", x.count(2), 2);
            due("letters stay", x.blank(), 3);
            due("what was done stays done", x.count(6) + 10 * x.count(7), 11);
            due("the HOUSE was read once", x.count(5), 1);
            x.change(0, 7);
            x.read(0, 99);
            addYears(x, ALL_ONES);
            due("the IMAGE is not what goes on", x.restore(), 2);
            due("AREA", x.houseTold(0), 1);
            due("a READING", x.read(0, NONE), 1);
            HowBigTank y = of(LEAKING);
            y.image();
            addYears(y, NO_RAIN);
            due("no YEARS", y.restore(), 0);
            due("none", y.rain(0, 0), UNKNOWN);
            due("the first", put(y, ALL_ONES).year(), 0);
            due("and not that ahead", y.rain(0, 0), 1);
        });
        holds(26, "STATE: none was kept, or there is another HOUSE since.", () -> {
            HowBigTank x = of(LEAKING, NO_RAIN);
            refused(x, "none was kept", x::restore, STATE);
            x.image();
            refused(put(x, "a1"), "no HOUSE", x::house, STATE);
            due("no other HOUSE", x.restore(), 1);
            x.blank();
            put(x, LEAKING).house();
            refused(x, "another one, of the same text", x::restore, STATE);
            due("kept of that", x.image(), 1);
            due("now it is", x.restore(), 1);
            put(x, "a2s2l2w2;u2h2c2").house();
            refused(x, "another one", x::restore, STATE);
            refused(x, "and still", x::restore, STATE);
        });
    }

    private static void counts() {
        holds(27, "How many: 0 USES, 1 YEARS, 2 RULES, 3 READINGS, 4 letters of THE PAGE, 5 how often a HOUSE was read, 6 cheapest(), share(), 7 hedge() was done.", () -> {
            HowBigTank x = new HowBigTank();
            for (int what = 0; what < 8; what++) due("of a new object, " + what, x.count(what), 0);
            for (int i = 1; i <= 3; i++) {
                put(x, "a1s1l0w0" + ";u1h0c1".repeat(i)).house();
                due("USES", x.count(0), i);
                due("HOUSES", x.count(5), i);
            }
            for (int i = 1; i <= 8; i++) {
                addYears(x, NO_RAIN);
                x.rule(ALL, 0);
                due("YEARS, RULES", x.count(1) + 10 * x.count(2), 11 * i);
            }
            for (int m = 0; m < 12; m++) {
                x.read(m, 0);
                due("READINGS", x.count(3), m + 1);
            }
            for (int i = 1; i <= 20; i++) {
                due("done", i % 2 == 0 ? x.share(0, 0, 1) : x.cheapest(0, 99, 0), 0);
                due("so many", x.count(6), i);
            }
            for (int i = 1; i <= 2; i++) due("hedge", x.hedge() + x.count(7), i);
            for (int i = 1; i <= 60; i++) due("letters", x.letters('a') - x.count(4), 0);
            int[] most = {3, 8, 8, 12, 60, 3, 20, 2};
            for (int what = 0; what < 8; what++) due("the most, " + what, x.count(what), most[what]);
        });
        holds(27, "OUTSIDE.", () -> {
            HowBigTank x = new HowBigTank();
            for (int what : new int[] {-1, 8, LOW, HIGH}) refused(x, "count(" + what + ")", () -> x.count(what), OUTSIDE);
        });
    }

    /** As the document says, with numbers of any length, of which the lowest 64 bits are told. */
    private static long wrapped(List<Integer> numbers) {
        BigInteger h = BigInteger.valueOf(401);
        for (int n : numbers) h = h.multiply(BigInteger.valueOf(31)).add(BigInteger.valueOf(n));
        return h.longValue();
    }

    private static void add(List<Integer> numbers, int... more) {
        for (int n : more) numbers.add(n);
    }

    private static void nones(List<Integer> numbers, int many) {
        for (int i = 0; i < many; i++) numbers.add(NONE);
    }

    private static void digest() {
        holds(28, "31 times h, and it (as longs, wrapping)", () -> {
            List<Integer> numbers = new ArrayList<>();
            nones(numbers, 12);
            add(numbers, 0, 0, 0, 0, 0, 0, 0, 0);
            due("a new object", new HowBigTank().digest(), wrapped(numbers));
        });
        holds(28, "with a HOUSE (all up to the next semicolon)", () -> {
            List<Integer> numbers = new ArrayList<>();
            add(numbers, 1, 2, 3, 4, 5, 1, 6, 3, 1, 2, 3, 4, 5, 6, 7, 8, 9);
            nones(numbers, 12);
            add(numbers, 3, 0, 0, 0, 0, 1, 0, 0);
            due("a HOUSE alone", of("a1s2l3w4k5p1q6;u1h2c3;u4h5c6;u7h8c9").digest(), wrapped(numbers));
        });
        holds(28, "of each YEAR RAIN of all MONTHS", () -> {
            List<Integer> numbers = new ArrayList<>();
            add(numbers, 1, 2, 3, 4, 5, 6, 7, 8, 9, 0, 1, 2, 9, 9, 9, 9, 9, 9, 9, 9, 9, 9, 9, 9);
            nones(numbers, 12);
            add(numbers, 0, 2, 0, 0, 0, 0, 0, 0);
            due("YEARS alone", addYears(new HowBigTank(), "123456789012", "999999999999").digest(), wrapped(numbers));
        });
        holds(28, "of each RULE KIND, n (0 of a TOLD)", () -> {
            List<Integer> numbers = new ArrayList<>();
            HowBigTank x = put(new HowBigTank(), "7,7,7,7,7,7,7,7,7,7,7,7");
            x.tell();
            for (int kind = 4; kind >= 0; kind--) x.rule(kind, kind == HEDGE || kind == WELL ? 200 : 0);
            add(numbers, 5, 0, 4, 200, 3, 0, 2, 0, 1, 200, 0, 0);
            nones(numbers, 12);
            add(numbers, 0, 0, 6, 0, 0, 0, 0, 0);
            due("RULES alone", x.digest(), wrapped(numbers));
        });
        holds(28, "not of a BEST, with a HOUSE and a YEAR (all up to the next semicolon) what run() tells for 0 to 6", () -> {
            for (int years = 0; years <= 1; years++) {
                HowBigTank x = of("a1s3l0w0k1;u1h0c2");
                if (years == 1) addYears(x, "300000000000");
                x.rule(ALL, 0);
                x.rule(BEST, 0);
                x.rule(HEDGE, 0);
                List<Integer> numbers = new ArrayList<>();
                add(numbers, 1, 3, 0, 0, 1, 0, 0, 1, 1, 0, 2);
                if (years == 1) add(numbers, 3, 0, 0, 0, 0, 0, 0, 0, 0, 0, 0, 0);
                add(numbers, 0, 0);
                // 3 less 1, 1 drawn; 1 less 1.
                if (years == 1) add(numbers, 11, 11, 22, 3, 0, 2, 0);
                add(numbers, 3, 0, 1, 0);
                if (years == 1) add(numbers, 11, 11, 22, 3, 0, 2, 0);
                nones(numbers, 12);
                add(numbers, 1, years, 3, 0, 0, 1, 0, 0);
                due("with " + years + " YEARS", x.digest(), wrapped(numbers));
            }
            HowBigTank y = addYears(new HowBigTank(), NO_RAIN);
            y.rule(ALL, 0);
            List<Integer> numbers = new ArrayList<>();
            add(numbers, 0, 0, 0, 0, 0, 0, 0, 0, 0, 0, 0, 0, 0, 0);
            nones(numbers, 12);
            add(numbers, 0, 1, 1, 0, 0, 0, 0, 0);
            due("without a HOUSE", y.digest(), wrapped(numbers));
        });
        holds(28, "READINGS of all MONTHS (NONE); letters of THE PAGE", () -> {
            HowBigTank x = new HowBigTank();
            x.read(0, 0);
            x.read(11, 200);
            x.letters(word("a~1") | 1L << 24);
            List<Integer> numbers = new ArrayList<>();
            add(numbers, 0);
            nones(numbers, 10);
            add(numbers, 200, 'a', '~', '1', 1, 0, 0, 0, 2, 4, 0, 0, 0);
            due("READINGS and letters", x.digest(), wrapped(numbers));
            x.blank();
            numbers.subList(12, 16).clear();
            numbers.set(16, 0);
            due("no letters", x.digest(), wrapped(numbers));
        });
    }

    private static void refusals() {
        holds(TERMS, "they change nothing", () -> {
            HowBigTank x = withImage();
            x.rule(BEST, 0);
            x.hedge();
            x.cheapest(0, 1, 0);
            put(x, "a1s");
            refusedCalls(x);
            long before = x.digest();
            due("the IMAGE is still that", x.restore(), 2);
            due("all is as it was", x.digest(), before);
            due("and of this the MEAN", x.mean(0, 0) - other().mean(0, 0) + x.mean(1, 0) - other().mean(1, 0), 0);
            HowBigTank none = put(new HowBigTank(), "a1s");
            refusedCalls(none);
            due("a new object is still new", none.blank() + none.digest() - new HowBigTank().digest(), 3);
        });
        holds(TERMS, "Without a HOUSE or a YEAR: STATE, where it is told, behind UNKNOWN.", () -> {
            HowBigTank house = of(LEAKING), year = addYears(new HowBigTank(), NO_RAIN), none = new HowBigTank();
            for (HowBigTank x : new HowBigTank[] {house, year, none}) {
                x.rule(ALL, 0);
                refused(x, "run", () -> x.run(0, 99) + x.run(1, 0), STATE + UNKNOWN);
                refused(x, "cheapest", () -> x.cheapest(0, 100, 9) + x.cheapest(1, 0, 0), STATE + UNKNOWN);
                refused(x, "sure", () -> x.sure(0, 9) + x.sure(1, 0), STATE + UNKNOWN);
                refused(x, "mean", () -> x.mean(0, 9) + x.mean(1, 0), STATE + UNKNOWN);
                refused(x, "never, let, share", () -> x.never(9) + x.let(97) + x.share(100, 100, 9), 3 * STATE);
                refused(x, "wise, hedge", () -> x.wise(12, -1, true, 9) + x.hedge(), 2 * STATE);
                refused(x, "month", () -> x.month(0, 0, 0, 9), x == year ? STATE : UNKNOWN);
                refused(x, "leaks", () -> x.leaks(0, 0, 9), x == year ? STATE : UNKNOWN);
                due("fault, read, count ask for neither", x.fault(0) + x.read(0, 3) + x.count(2), 0);
                due("image asks for a HOUSE alone", x.image(), x == house ? 0 : STATE);
            }
        });
    }

    /** With all that can be full, and all done as often as may be; rule 0 is an ALL, rule 1 a BEST. */
    private static HowBigTank fullOfAll() {
        HowBigTank x = of(LEAKING, NO_RAIN, NO_RAIN, NO_RAIN, NO_RAIN, NO_RAIN, NO_RAIN, NO_RAIN, NO_RAIN);
        for (int r = 0; r < 8; r++) x.rule(r == 1 ? BEST : ALL, 0);
        for (int i = 0; i < 20; i++) x.cheapest(0, 0, 0);
        for (int i = 0; i < 2; i++) x.hedge();
        return x;
    }

    private static void ordersOfRefusals() {
        holds(TERMS, "Refusals, of several the first as told by each call", () -> {
            HowBigTank x = fullOfAll();
            put(x, NO_RAIN.repeat(5));
            refused(x, "letters", () -> x.letters(127L << 8 | 1), OUTSIDE);
            refused(x, "letters, full alone", () -> x.letters(1), FULL);
            refused(x, "year", x::year, STATE);
            refused(x, "tell", x::tell, STATE);
            x.blank();
            refused(put(x, NO_RAIN), "year, full alone", x::year, FULL);
            x.blank();
            refused(put(x, "0,0,0,0,0,0,0,0,0,0,0,0"), "tell, full alone", x::tell, FULL);
            refused(x, "rule", () -> x.rule(5, 0), OUTSIDE);
            refused(x, "rule, full alone", () -> x.rule(0, 0), FULL);
            refused(x, "as", () -> x.as(8, 6), UNKNOWN);
            refused(x, "run", () -> x.run(8, 7), UNKNOWN);
            refused(x, "month", () -> x.month(0, 8, 0, 7) + x.month(0, 0, 12, 7) + x.month(8, 0, 0, 7), 3 * UNKNOWN);
            refused(x, "cheapest, rule", () -> x.cheapest(8, 100, 2), UNKNOWN);
            refused(x, "cheapest, a BEST", () -> x.cheapest(1, 100, 2), STATE);
            refused(x, "cheapest, price", () -> x.cheapest(0, 100, 0), OUTSIDE);
            refused(x, "cheapest, done alone", () -> x.cheapest(0, 99, 0), STATE);
            refused(x, "share, roof", () -> x.share(0, 100, 0), OUTSIDE);
            refused(x, "share, done alone", () -> x.share(0, 99, 0), STATE);
            refused(x, "sure, mean", () -> x.sure(8, 2) + x.mean(8, 2), 2 * UNKNOWN);
            refused(x, "read", () -> x.read(12, 201), UNKNOWN);
            refused(x, "leaks, year", () -> x.leaks(1, 8, 5), UNKNOWN);
            refused(x, "leaks, a BEST", () -> x.leaks(1, 0, 5), STATE);
            HowBigTank none = new HowBigTank();
            refused(none, "houseTold", () -> none.houseTold(8), STATE);
            refused(none, "change", () -> none.change(7, 0), STATE);
        });
    }

    private static HowBigTank other() {
        HowBigTank x = withImage();
        x.rule(BEST, 0);
        return x;
    }

    /** Calls that are refused in any state with less than two rules that are not a BEST, and without a whole text. */
    private static void refusedCalls(HowBigTank x) {
        refused(x, "letters", () -> x.letters(127), OUTSIDE);
        refused(x, "letters behind a 0", () -> x.letters(0x6100L), OUTSIDE);
        refused(x, "fault", () -> x.fault(3), OUTSIDE);
        refused(x, "house, year, tell", () -> x.house() + x.year() + x.tell(), 3 * STATE);
        refused(x, "rule", () -> x.rule(5, 0) + x.rule(ALL, 1), 2 * OUTSIDE);
        refused(x, "as", () -> x.as(7, ALL), UNKNOWN);
        refused(x, "rain", () -> x.rain(7, 0) + x.rain(0, 12), 2 * UNKNOWN);
        refused(x, "run, month", () -> x.run(7, 0) + x.month(7, 0, 0, 0), 2 * UNKNOWN);
        refused(x, "cheapest, leaks", () -> x.cheapest(7, 0, 0) + x.leaks(7, 0, 0), 2 * UNKNOWN);
        refused(x, "sure, mean", () -> x.sure(7, 0) + x.mean(7, 0), 2 * UNKNOWN);
        refused(x, "read", () -> x.read(12, 0) + x.read(0, 201), UNKNOWN + OUTSIDE);
        refused(x, "count", () -> x.count(8), OUTSIDE);
        int due = x.count(0) == 0 ? STATE : OUTSIDE;
        refused(x, "houseTold, change", () -> x.houseTold(9) + x.change(0, 21), 2 * due);
        refused(x, "never, let, share", () -> x.never(3) + x.let(97) + x.share(0, 0, 3), 3 * due);
        refused(x, "wise", () -> x.wise(0, 201, true, 0), due);
    }

    private static void manyCalls() {
        holds(27, "5 how often a HOUSE was read", () -> {
            HowBigTank x = new HowBigTank();
            int calls = 0;
            for (int i = 1; calls + 3 <= 511; i++) {
                put(x, "a1s1l0w0;u1h0c1");
                due("read", x.house(), 1);
                calls += 3;
                if (calls + 3 > 511) due("so often", x.count(5), i);
            }
        });
    }

    public static void main(String[] args) {
        readings();
        leaks();
        images();
        counts();
        digest();
        refusals();
        ordersOfRefusals();
        manyCalls();
        end();
    }
}
