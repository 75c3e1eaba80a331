/** Boundary cases of the search for a size; promises 15 to 18. All is reckoned by hand. */
public final class EdgesOfSizes extends Edge {
    private static final String ONE_USE = "a1s5l0w0;u1h0c1";
    /** It wants 201 a year, and is 9 a tub. */
    private static final String WANTS_201 = "a1s5l0w0;u15h7c9";
    private static final String ONE_IN_MONTH_5 = "000001000000", ONE_IN_MONTH_6 = "000000100000";

    private static void never(HowBigTank x, int... want) {
        for (int what = 0; what < 3; what++) due("never(" + what + ")", x.never(what), want[what]);
    }

    private static void neverDry() {
        holds(TERMS, "the least SIZE (0 to 200) by which the RUN of an ALL has no DRY MONTH", () -> {
            HowBigTank x = of(WANTS_201, ONE_IN_MONTH_5);
            due("200", x.never(0), 200);
            addYears(x, NO_RAIN);
            due("201 is none", x.never(0), NONE);
            due("with RAIN in each MONTH", of(ONE_USE, ALL_ONES).never(0), 1);
            due("a LEAK takes of all", of("a9s5l0w0k9;u1h0c1", "999999999999").never(0), 10);
            due("12 for 12 MONTHS", of(ONE_USE, NO_RAIN).never(0), 12);
            HowBigTank y = ruled(WELL, 200, "a1s5l0w0p5q0;u1h0c1", NO_RAIN);
            due("by an ALL, that pumps nothing", y.never(0), 12);
            due("SIZE stays", y.houseTold(1), 5);
        });
        holds(TERMS, "BUILT FOR: the first DRY one, if SIZE was one less", () -> {
            never(of(ONE_USE, ALL_ONES), 1, 0, 0);
            never(of(ONE_USE, NO_RAIN), 12, 0, 11);
            never(of(ONE_USE, ALL_ONES, NO_RAIN, ALL_ONES), 13, 1, 11);
            // What the second YEAR draws never comes again.
            never(of(ONE_USE, ALL_ONES, NO_RAIN, ALL_ONES, NO_RAIN), 25, 3, 11);
            never(of("a1s5l0w0;u2h0c1", NO_RAIN, NO_RAIN, NO_RAIN, NO_RAIN, NO_RAIN, NO_RAIN, NO_RAIN, NO_RAIN), 192, 7, 11);
            never(of("a20s5l0w0;u1h0c1", "000000000009", NO_RAIN, "900000000000"), 13, 1, 11);
            never(of("a20s5l0w0;u1h0c1", "000000000000", "090000000000", "000000000000"), 23, 2, 11);
        });
        holds(15, "(NONE: SIZE is 0)", () -> {
            // A USE wants one at least, so that a SIZE of 0 is always DRY: the least that is told is 1.
            never(of("a20s0l0w0;u1h0c1", "999999999999"), 1, 0, 0);
            due("some DRY with 0", of("a20s0l0w0;u1h0c1", "999999999999").let(11), 1);
        });
        holds(15, "NONE: none of 0 to 200. OUTSIDE.", () -> {
            never(of(WANTS_201, NO_RAIN), NONE, NONE, NONE);
            never(of("a1s5l0w0;u15h9c1", NO_RAIN), NONE, NONE, NONE);
            HowBigTank x = of(ONE_USE, NO_RAIN);
            for (int what : new int[] {-1, 3, LOW, HIGH}) refused(x, "never(" + what + ")", () -> x.never(what), OUTSIDE);
            HowBigTank y = of(ONE_USE);
            refused(y, "no YEAR", () -> y.never(3), STATE);
            HowBigTank z = addYears(new HowBigTank(), NO_RAIN);
            refused(z, "no HOUSE", () -> z.never(3), STATE);
        });
    }

    private static void let() {
        holds(TERMS, "LET k: the least by which it has k at most.", () -> {
            HowBigTank x = of("a1s5l0w0;u2h0c1", NO_RAIN);
            for (int k = 0; k <= 12; k++) due("let(" + k + ")", x.let(k), 24 - 2 * k);
            due("more than there are MONTHS", x.let(13), 0);
            addYears(x, NO_RAIN, NO_RAIN, NO_RAIN, NO_RAIN, NO_RAIN, NO_RAIN, NO_RAIN);
            for (int k = 0; k <= 96; k++) due("of 96 let(" + k + ")", x.let(k), 192 - 2 * k);
            HowBigTank y = ruled(WELL, 200, "a1s5l0w0p5q0;u1h0c1", NO_RAIN);
            due("by an ALL", y.let(2), 10);
        });
        holds(16, "LET; NONE.", () -> {
            HowBigTank x = of("a1s5l0w0;u15h9c9;u15h9c9;u15h9c9", NO_RAIN);
            due("45 a MONTH, for four", x.let(8), 180);
            due("for five it is 225", x.let(7), NONE);
            due("for none", x.let(0), NONE);
            due("200", of(WANTS_201, ONE_IN_MONTH_5).let(0), 200);
            due("201", of(WANTS_201, NO_RAIN).let(0), NONE);
            due("all but one", of(WANTS_201, NO_RAIN).let(1), 186);
        });
        holds(16, "OUTSIDE: k (0 to 96).", () -> {
            HowBigTank x = of(ONE_USE, NO_RAIN);
            due("0", x.let(0), 12);
            due("96", x.let(96), 0);
            for (int k : new int[] {-1, 97, LOW, HIGH}) refused(x, "let(" + k + ")", () -> x.let(k), OUTSIDE);
            HowBigTank y = of(ONE_USE);
            refused(y, "no YEAR", () -> y.let(97), STATE);
            HowBigTank z = addYears(new HowBigTank(), NO_RAIN);
            refused(z, "no HOUSE", () -> z.let(97), STATE);
        });
    }

    private static void cheapest(HowBigTank x, int price, int size, int together) {
        due("cheapest by " + price, x.cheapest(0, price, 0), size);
        due("together by " + price, x.cheapest(0, price, 1), together);
    }

    private static void cheapest() {
        holds(TERMS, "the SIZE (0 to 200) by which price times SIZE and COST of its RUN together are least, of like ones the least", () -> {
            HowBigTank x = ruled(ALL, 0, ONE_USE, ALL_ONES);
            cheapest(x, 0, 1, 0);
            cheapest(x, 11, 1, 11);
            cheapest(x, 12, 0, 12);
            cheapest(x, 13, 0, 12);
            cheapest(x, 99, 0, 12);
            x = ruled(FIRST, 0, WANTS_201, NO_RAIN);
            cheapest(x, 0, 200, 9);
            cheapest(x, 8, 200, 1609);
            cheapest(x, 9, 0, 1809);
            cheapest(x, 10, 0, 1809);
            due("SIZE stays", x.houseTold(1), 5);
            cheapest(ruled(ALL, 0, "a1s5l0w0;u2h0c9", ONE_IN_MONTH_6), 2, 23, 46);
        });
        holds(TERMS, "CHEAPEST of a RULE (not a BEST) by a price", () -> {
            // A WELL of a pump without PRICE lacks MONTH 7's tub alone, or keeps it at SIZE 2.
            cheapest(ruled(WELL, 200, "a1s5l0w0p2q0;u1h0c9", NO_RAIN), 1, 2, 2);
            cheapest(ruled(WELL, 200, "a1s5l0w0p2q0;u1h0c9", NO_RAIN), 9, 1, 18);
            cheapest(told("0,0,0,0,0,0,0,0,0,0,0,0", ONE_USE, NO_RAIN), 1, 0, 12);
            cheapest(told("0,0,0,0,0,0,0,0,0,0,0,3", ONE_USE, NO_RAIN), 0, 1, 11);
            // Halves at each level below 200 are nothing; at 200 one is given.
            cheapest(ruled(HEDGE, 200, ONE_USE, NO_RAIN), 0, 200, 11);
            // The last tub would be for the first USE by a FIRST, for the second by an ALL.
            cheapest(ruled(FIRST, 0, "a1s5l0w0;u1h0c1;u1h0c9", NO_RAIN), 1, 23, 23 + 1);
            cheapest(ruled(ALL, 0, "a1s5l0w0;u1h0c1;u1h0c9", NO_RAIN), 1, 24, 24);
        });
        holds(17, "UNKNOWN: rule; STATE, too: it is a BEST; OUTSIDE: price (0 to 99), what", () -> {
            HowBigTank x = of(ONE_USE);
            x.rule(ALL, 0);
            x.rule(BEST, 0);
            refused(x, "no YEAR", () -> x.cheapest(0, 100, 2), STATE);
            HowBigTank y = addYears(new HowBigTank(), NO_RAIN);
            y.rule(ALL, 0);
            refused(y, "no HOUSE", () -> y.cheapest(0, 100, 2), STATE);
            refused(y, "no RULE, no HOUSE", () -> y.cheapest(1, 100, 2), UNKNOWN);
            addYears(x, NO_RAIN);
            for (int r : new int[] {-1, 2, 8, LOW, HIGH}) refused(x, "rule " + r, () -> x.cheapest(r, 100, 2), UNKNOWN);
            refused(x, "a BEST", () -> x.cheapest(1, 0, 0), STATE);
            refused(x, "a BEST, and price", () -> x.cheapest(1, 100, 2), STATE);
            for (int price : new int[] {-1, 100, LOW, HIGH}) refused(x, "price " + price, () -> x.cheapest(0, price, 0), OUTSIDE);
            for (int what : new int[] {-1, 2, LOW, HIGH}) refused(x, "what " + what, () -> x.cheapest(0, 0, what), OUTSIDE);
            due("refusals did not count", x.count(6), 0);
            due("price 0", x.cheapest(0, 0, 1), 0);
            due("price 99", x.cheapest(0, 99, 1), 12);
            due("counted", x.count(6), 2);
        });
        holds(17, "STATE, too: cheapest(), share() were done 20 times ever together (refusals do not count, all else does)", () -> {
            HowBigTank x = ruled(ALL, 0, ONE_USE, ALL_ONES);
            x.rule(BEST, 0);
            x.image();
            for (int i = 0; i < 20; i++) {
                refused(x, "UNKNOWN", () -> x.cheapest(2, 5, 0), UNKNOWN);
                refused(x, "a BEST", () -> x.cheapest(1, 5, 0), STATE);
                refused(x, "OUTSIDE", () -> x.share(5, 100, 0), OUTSIDE);
                due("done", x.count(6), i);
                // The same question once more counts again.
                due("the next", i % 3 == 0 ? x.cheapest(0, 5, 1) : x.share(5, 5, 2), 5);
            }
            due("20", x.count(6), 20);
            refused(x, "cheapest the 21st time", () -> x.cheapest(0, 5, 0), STATE);
            refused(x, "share the 21st time", () -> x.share(5, 5, 0), STATE);
            refused(x, "OUTSIDE ahead of that", () -> x.cheapest(0, 100, 0), OUTSIDE);
            refused(x, "OUTSIDE of share ahead of that", () -> x.share(0, 0, 3), OUTSIDE);
            refused(x, "UNKNOWN ahead of that", () -> x.cheapest(2, 5, 0), UNKNOWN);
            due("another HOUSE", put(x, ONE_USE).house(), 1);
            refused(x, "ever", () -> x.cheapest(0, 5, 0), STATE);
            x.image();
            x.restore();
            refused(x, "ever, and restored", () -> x.share(5, 5, 0), STATE);
            due("never() and let() are none of them", x.never(0) + x.let(0), 2);
        });
    }

    private static void share(HowBigTank x, int price, int roof, int... want) {
        for (int what = 0; what < 3; what++) due("share(" + price + ", " + roof + ", " + what + ")", x.share(price, roof, what), want[what]);
    }

    private static void share() {
        // By e the one RAIN brings 1 + e (or AREA + e), so that the least SIZE without a DRY MONTH falls by e.
        holds(TERMS, "of SIZE (0 to 200) and of e more AREA (0 to 5)", () -> {
            share(of("a1s5l0w0;u2h0c9", ONE_IN_MONTH_6), 2, 0, 18, 5, 36);
            share(of("a1s5l0w0;u2h0c9", ONE_IN_MONTH_6), 2, 1, 18, 5, 41);
            share(of("a1s5l0w0;u2h0c9", ONE_IN_MONTH_6), 2, 3, 23, 0, 46);
            HowBigTank x = of("a20s5l0w0;u5h0c9", ONE_IN_MONTH_6);
            share(x, 2, 1, 35, 5, 75);
            due("AREA stays", x.houseTold(0), 20);
            due("SIZE stays", x.houseTold(1), 5);
            share(of("a20s5l0w0;u4h0c9", ONE_IN_MONTH_6), 2, 1, 24, 4, 52);
            share(of("a1s5l0w0;u15h7c9", NO_RAIN), 8, 0, 200, 0, 1609);
            share(of("a1s5l0w0;u15h7c9", NO_RAIN), 9, 0, 0, 0, 1809);
            // 219 are wanted, and 200 are there, and 1 + e of the one RAIN.
            share(of("a1s5l0w0;u15h9c9;u1h0c9", "000000100000"), 0, 0, 200, 5, 9 * (15 * 12 + 27 + 12 - 206));
        });
        holds(TERMS, "of like ones the least e, then SIZE", () -> {
            share(of("a1s5l0w0;u1h0c9", ONE_IN_MONTH_6), 2, 2, 11, 0, 22);
            share(of(ONE_USE, ALL_ONES), 0, 0, 1, 0, 0);
            share(of(ONE_USE, ALL_ONES), 12, 0, 0, 0, 12);
            share(of(ONE_USE, NO_RAIN), 1, 0, 0, 0, 12);
            share(of("a1s5l0w0;u1h0c9", ONE_IN_MONTH_6), 2, 1, 6, 5, 17);
        });
        holds(TERMS, "those by which both and COST of the RUN together are least", () -> {
            // One more of SIZE and of AREA saves a tub in each MONTH, 108; the first of SIZE does so alone.
            HowBigTank x = of("a1s5l0w0;u9h0c9", ALL_ONES);
            share(x, 99, 99, 1, 0, 99 + 864);
            share(x, 50, 50, 6, 5, 300 + 250 + 324);
            share(x, 50, 58, 1, 0, 50 + 864);
            share(x, 50, 57, 6, 5, 300 + 285 + 324);
            share(of("a1s5l0w0;u9h0c1", "101010101010"), 99, 0, 0, 0, 108);
        });
        holds(18, "OUTSIDE: prices (0 to 99), what; STATE, too, as cheapest().", () -> {
            HowBigTank x = of(ONE_USE);
            refused(x, "no YEAR", () -> x.share(100, 100, 3), STATE);
            HowBigTank y = addYears(new HowBigTank(), NO_RAIN);
            refused(y, "no HOUSE", () -> y.share(100, 100, 3), STATE);
            addYears(x, NO_RAIN);
            for (int v : new int[] {-1, 100, LOW, HIGH}) {
                refused(x, "price " + v, () -> x.share(v, 0, 0), OUTSIDE);
                refused(x, "roof " + v, () -> x.share(0, v, 0), OUTSIDE);
            }
            for (int what : new int[] {-1, 3, LOW, HIGH}) refused(x, "what " + what, () -> x.share(0, 0, what), OUTSIDE);
            due("refusals did not count", x.count(6), 0);
            due("0 and 0", x.share(0, 0, 2), 0);
            due("99 and 99", x.share(99, 99, 2), 12);
            for (int i = 2; i < 20; i++) due("the next", x.share(1, 1, 1), 0);
            refused(x, "the 21st time", () -> x.share(1, 1, 1), STATE);
        });
    }

    public static void main(String[] args) {
        neverDry();
        let();
        cheapest();
        share();
        end();
    }
}
