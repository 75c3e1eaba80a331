/** Boundary cases of a month, of the rules and of a run; promises 13 and 14. All is reckoned by hand. */
public final class EdgesOfRuns extends Edge {
    private static final int COMES = 0, OVER = 1, LEAKED = 2, PUMPED = 3, GIVEN = 4, LEVEL = 5, COST = 6;
    private static final int DRY_MONTHS = 0, SHORT = 1, COST_OF_RUN = 2;

    private static void whatComes() {
        holds(TERMS, "MONTHS 5, 6, 7 are HOT: a USE wants WANT and HOT then, else WANT.", () -> {
            HowBigTank x = ruled(ALL, 0, "a1s200l0w0;u1h2c1;u3h9c1", NO_RAIN);
            months(x, GIVEN, 4, 4, 4, 4, 4, 15, 15, 15, 4, 4, 4, 4);
            x = ruled(ALL, 0, "a1s0l0w0;u15h9c9", NO_RAIN);
            months(x, COST, 135, 135, 135, 135, 135, 216, 216, 216, 135, 135, 135, 135);
        });
        holds(TERMS, "AREA times RAIN, less LOSS, and less WASH, if the MONTH ahead had no RAIN", () -> {
            HowBigTank x = ruled(ALL, 0, "a9s200l1w3;u1h0c1", "101100000000", "200000000001", "900000000000");
            months(x, COMES, 8, 0, 5, 8, 0);
            due("behind a dry MONTH 11", x.month(0, 1, 0, COMES), 14);
            due("MONTH 11", x.month(0, 1, 11, COMES), 5);
            due("behind a MONTH 11 with RAIN", x.month(0, 2, 0, COMES), 80);
            months(ruled(ALL, 0, "a20s200l0w0;u1h0c1", "999999999999"), COMES, 180, 180);
        });
        holds(TERMS, "if the MONTH ahead had no RAIN", () -> {
            // In MONTH 1 all is lost or washed, but it has rained.
            months(ruled(ALL, 0, "a1s200l1w3;u1h0c1", "012000000000"), COMES, 0, 0, 1);
        });
        holds(TERMS, "(0 at least; without RAIN nothing)", () -> {
            HowBigTank x = ruled(ALL, 0, "a1s9l5w4;u1h0c1", "405090405060");
            months(x, COMES, 0, 0, 0, 0, 0, 0, 0, 0, 0, 0, 0, 0);
            months(x, LEVEL, 8, 7, 6, 5, 4, 3, 2, 1, 0, 0);
            x.change(3, 3);
            months(x, COMES, 0, 0, 0, 0, 1, 0, 0, 0, 0, 0, 0, 0);
            x.change(2, 3);
            months(x, COMES, 1, 0, 0, 0, 3, 0, 0, 0, 0, 0, 0, 0);
            months(ruled(ALL, 0, "a20s9l0w0;u1h0c1", NO_RAIN), COMES, 0, 0, 0);
        });
        holds(TERMS, "the level is so much more, what is above SIZE RUNS OVER", () -> {
            HowBigTank x = ruled(ALL, 0, "a1s5l0w0;u1h0c1", "112010000000");
            months(x, OVER, 1, 0, 1, 0, 0, 0);
            months(x, LEVEL, 4, 4, 4, 3, 3, 2);
            x = ruled(ALL, 0, "a3s0l0w0;u1h0c1", "301000000000");
            months(x, OVER, 9, 0, 3);
            months(x, LEVEL, 0, 0, 0);
            months(ruled(ALL, 0, "a20s200l0w0;u1h0c1", "999999999999"), OVER, 180, 179);
        });
        holds(TERMS, "2 LEAK goes (the level is 0 at least).", () -> {
            HowBigTank x = ruled(ALL, 0, "a1s5l0w0k2;u1h0c1", NO_RAIN);
            months(x, LEAKED, 2, 2, 0, 0);
            months(x, LEVEL, 2, 0, 0, 0);
            x.change(1, 4);
            months(x, LEAKED, 2, 1, 0, 0);
            months(x, LEVEL, 1, 0, 0, 0);
            x.change(4, 9);
            months(x, LEAKED, 4, 0, 0);
            months(x, GIVEN, 0, 0, 0);
            x.change(4, 0);
            months(x, LEAKED, 0, 0, 0);
            x = ruled(ALL, 0, "a1s5l0w0k2;u1h0c1", "300000000000");
            months(x, OVER, 3, 0);
            months(x, LEAKED, 2, 2);
        });
    }

    private static void pumpsAndDraws() {
        holds(TERMS, "PUMP at most (0 in MONTH 7), no more than up to SIZE", () -> {
            HowBigTank x = ruled(WELL, 200, "a1s9l0w0p5q0;u1h0c1", NO_RAIN);
            months(x, PUMPED, 0, 1, 1, 1, 1, 1, 1, 0, 2, 1, 1, 1);
            months(x, LEVEL, 8, 8, 8, 8, 8, 8, 8, 7, 8, 8, 8, 8);
            x = ruled(WELL, 200, "a1s40l0w0p5q0;u15h0c1", NO_RAIN);
            months(x, PUMPED, 0, 5, 5, 5, 5, 5, 5, 0, 5, 5, 5, 5);
            x.change(1, 0);
            months(x, PUMPED, 0, 0, 0, 0, 0, 0, 0, 0, 0, 0, 0, 0);
            x.change(1, 4);
            months(x, PUMPED, 0, 4, 4, 4, 4, 4, 4, 0, 4, 4, 4, 4);
            x.change(5, 0);
            months(x, PUMPED, 0, 0, 0);
        });
        holds(TERMS, "SHORT of a USE: what it wants less what it gets.", () -> {
            HowBigTank x = ruled(ALL, 0, "a1s3l0w0;u1h0c1;u1h0c1", NO_RAIN);
            due("of the first", x.run(0, 10), 10);
            due("of the second", x.run(0, 11), 11);
            due("of all", x.run(0, SHORT), 21);
            due("of none", ruled(ALL, 0, "a1s12l0w0;u1h0c1", NO_RAIN).run(0, 10), 0);
        });
        holds(TERMS, "A MONTH is DRY, if some USE is SHORT.", () -> {
            HowBigTank x = ruled(ALL, 0, "a1s2l0w0;u1h0c1;u1h0c1", NO_RAIN);
            due("the first MONTH just so", x.run(0, DRY_MONTHS), 11);
            x.change(1, 3);
            due("only the second USE is SHORT in MONTH 1", x.run(0, DRY_MONTHS), 11);
            x.change(1, 4);
            due("two MONTHS just so", x.run(0, DRY_MONTHS), 10);
            x = ruled(ALL, 0, "a1s0l0w0;u1h0c1", NO_RAIN, NO_RAIN, NO_RAIN, NO_RAIN, NO_RAIN, NO_RAIN, NO_RAIN, NO_RAIN);
            due("all of eight YEARS", x.run(0, DRY_MONTHS), 96);
            x = ruled(ALL, 0, "a1s2l0w0;u1h0c1;u1h0c1", "222222222222");
            due("none", x.run(0, DRY_MONTHS), 0);
            x = ruled(FIRST, 0, "a1s1l0w0;u1h0c1;u1h0c2", ALL_ONES);
            due("only the first USE is SHORT", x.run(0, DRY_MONTHS), 12);
        });
        holds(TERMS, "COST: SHORT times WORTH of all USES, and PRICE for each tub pumped.", () -> {
            HowBigTank x = ruled(WELL, 1, "a1s1l0w0p1q9;u1h0c4", NO_RAIN);
            months(x, COST, 0, 9, 9, 9, 9, 9, 9, 4, 9, 9, 9, 9);
            due("of the RUN", x.run(0, COST_OF_RUN), 94);
            x.change(6, 0);
            due("PRICE 0", x.run(0, COST_OF_RUN), 4);
            x = ruled(ALL, 0, "a1s0l0w0;u15h9c9;u15h9c9;u15h9c9", NO_RAIN);
            due("the most", x.run(0, COST_OF_RUN), 9 * 405 + 3 * 648);
            due("two WORTHS", ruled(ALL, 0, "a1s0l0w0;u2h0c1;u3h0c9", NO_RAIN).month(0, 0, 0, COST), 29);
            x = ruled(WELL, 200, "a1s5l0w0p2q3;u3h0c2;u4h0c1", NO_RAIN);
            months(x, COST, 2, 6 + 2 + 4, 6 + 2 + 4);
        });
    }

    private static void plainRules() {
        holds(TERMS, "pumps nothing, and gives USES in their order what they want as long as there is something", () -> {
            HowBigTank x = ruled(ALL, 0, "a1s3l0w0p5q0;u2h0c1;u2h0c9", NO_RAIN);
            months(x, GIVEN, 3, 0, 0);
            months(x, COST, 9, 20, 20);
            months(x, PUMPED, 0, 0, 0);
            x.change(1, 4);
            months(x, COST, 0, 20);
            x.change(1, 5);
            months(x, COST, 0, 19);
        });
        holds(TERMS, "if the level (ahead of 4) is below n", () -> {
            for (int n = 0; n <= 4; n++) due("n " + n, ruled(HEDGE, n, "a1s4l0w0;u4h0c1", NO_RAIN).month(0, 0, 0, GIVEN), 4);
            for (int n : new int[] {5, 6, 200}) due("n " + n, ruled(HEDGE, n, "a1s4l0w0;u4h0c1", NO_RAIN).month(0, 0, 0, GIVEN), 2);
            due("behind the LEAK at n", ruled(HEDGE, 3, "a1s4l0w0k1;u3h0c1", NO_RAIN).month(0, 0, 0, GIVEN), 3);
            due("behind the LEAK below n", ruled(HEDGE, 4, "a1s4l0w0k1;u3h0c1", NO_RAIN).month(0, 0, 0, GIVEN), 1);
            due("behind what COMES at n", ruled(HEDGE, 2, "a2s3l0w0;u3h0c1", "010000000000").month(0, 0, 1, GIVEN), 2);
            due("behind what COMES below n", ruled(HEDGE, 3, "a2s3l0w0;u3h0c1", "010000000000").month(0, 0, 1, GIVEN), 1);
            due("n 200 at 200", ruled(HEDGE, 200, "a1s200l0w0;u4h0c1", NO_RAIN).month(0, 0, 0, GIVEN), 4);
            due("n 200 at 196", ruled(HEDGE, 200, "a1s200l0w0;u4h0c1", NO_RAIN).month(0, 0, 1, GIVEN), 2);
        });
        holds(TERMS, "no USE gets more than half of what it wants (rounded down)", () -> {
            months(ruled(HEDGE, 200, "a1s99l0w0;u1h0c1", NO_RAIN), GIVEN, 0, 0, 0, 0, 0, 0, 0, 0, 0, 0, 0, 0);
            due("a MONTH that gives nothing is DRY", ruled(HEDGE, 200, "a1s99l0w0;u1h0c1", NO_RAIN).run(0, DRY_MONTHS), 12);
            months(ruled(HEDGE, 200, "a1s99l0w0;u2h1c1", NO_RAIN), GIVEN, 1, 1, 1, 1, 1, 1, 1, 1, 1);
            months(ruled(HEDGE, 200, "a1s99l0w0;u3h1c1", NO_RAIN), GIVEN, 1, 1, 1, 1, 1, 2, 2, 2, 1);
            months(ruled(HEDGE, 200, "a1s199l0w0;u15h9c1", NO_RAIN), GIVEN, 7, 7, 7, 7, 7, 12, 12, 12, 7);
            due("each USE by itself", ruled(HEDGE, 200, "a1s99l0w0;u3h0c1;u5h0c1;u1h0c1", NO_RAIN).month(0, 0, 0, GIVEN), 3);
            due("less, if less is there", ruled(HEDGE, 2, "a1s1l0w0;u4h0c1", NO_RAIN).month(0, 0, 0, GIVEN), 1);
            due("nothing, if nothing is there", ruled(HEDGE, 2, "a1s0l0w0;u4h0c1", NO_RAIN).month(0, 0, 0, GIVEN), 0);
            due("in their order", ruled(HEDGE, 3, "a1s2l0w0;u4h0c1;u4h0c9", NO_RAIN).month(0, 0, 0, COST), 2 + 36);
            due("it pumps nothing", ruled(HEDGE, 200, "a1s9l0w0p5q0;u2h0c1", NO_RAIN).run(0, 4), 0);
        });
        holds(TERMS, "USES of greatest WORTH first, of like ones the least", () -> {
            shortOf("a1s3l0w0;u2h0c5;u2h0c9;u2h0c5", 23, 22, 24);
            shortOf("a1s3l0w0;u2h0c4;u2h0c4;u2h0c4", 22, 23, 24);
            shortOf("a1s3l0w0;u2h0c1;u2h0c2;u2h0c3", 24, 23, 22);
            shortOf("a1s3l0w0;u2h0c3;u2h0c2;u2h0c1", 22, 23, 24);
            shortOf("a1s3l0w0;u2h0c1;u2h0c9;u2h0c9", 24, 22, 23);
            shortOf("a1s3l0w0;u2h0c9;u2h0c1;u2h0c9", 22, 24, 23);
            shortOf("a1s3l0w0;u2h0c2;u2h0c3;u2h0c1", 23, 22, 24);
            shortOf("a1s3l0w0;u2h0c2;u2h0c1;u2h0c3", 23, 24, 22);
            shortOf("a1s3l0w0;u2h0c3;u2h0c1;u2h0c2", 22, 24, 23);
            due("it pumps nothing", ruled(FIRST, 0, "a1s9l0w0p5q0;u2h0c1", NO_RAIN).run(0, 4), 0);
        });
    }

    /** By a FIRST, which without RAIN draws all in MONTH 0. */
    private static void shortOf(String house, int... want) {
        HowBigTank x = ruled(FIRST, 0, house, NO_RAIN);
        for (int use = 0; use < want.length; use++) due("SHORT of " + use + " of " + house, x.run(0, 10 + use), want[use]);
    }

    private static void otherRules() {
        holds(TERMS, "as a FIRST, but if the level (ahead of 3) is below n, it pumps as much as it can", () -> {
            due("at n", ruled(WELL, 5, "a1s9l0w0p1q1;u4h0c1", NO_RAIN).month(0, 0, 1, PUMPED), 0);
            due("below n", ruled(WELL, 6, "a1s9l0w0p1q1;u4h0c1", NO_RAIN).month(0, 0, 1, PUMPED), 1);
            due("behind the LEAK at n", ruled(WELL, 3, "a1s9l0w0k1p1q1;u4h0c1", NO_RAIN).month(0, 0, 1, PUMPED), 0);
            due("behind the LEAK below n", ruled(WELL, 4, "a1s9l0w0k1p1q1;u4h0c1", NO_RAIN).month(0, 0, 1, PUMPED), 1);
            due("n 0 at 0", ruled(WELL, 0, "a1s4l0w0p1q1;u4h0c1", NO_RAIN).month(0, 0, 1, PUMPED), 0);
            due("n 1 at 0", ruled(WELL, 1, "a1s4l0w0p1q1;u4h0c1", NO_RAIN).month(0, 0, 1, PUMPED), 1);
            due("n 200 at 200", ruled(WELL, 200, "a1s200l0w0p1q1;u4h0c1", NO_RAIN).month(0, 0, 0, PUMPED), 0);
            due("all that it can, above n, too", ruled(WELL, 1, "a1s4l0w0p5q1;u4h0c1", NO_RAIN).month(0, 0, 1, PUMPED), 4);
            due("what is pumped is drawn, by WORTH", ruled(WELL, 1, "a1s4l0w0p2q0;u2h0c1;u2h0c9", NO_RAIN).month(0, 0, 1, COST), 2);
        });
        holds(TERMS, "as a FIRST, but together it gives so many in a MONTH at most", () -> {
            HowBigTank x = told("0,6,7,8,99,1,0,0,0,0,0,99", "a1s30l0w0p5q0;u5h2c3;u2h0c4", NO_RAIN);
            months(x, GIVEN, 0, 6, 7, 7, 7, 1, 0, 0, 0, 0, 0, 2);
            months(x, LEVEL, 30, 24, 17, 10, 3, 2, 2, 2, 2, 2, 2, 0);
            months(x, COST, 23, 3, 0, 0, 0, 7 * 3 + 4, 29, 29, 23, 23, 23, 15);
            months(x, PUMPED, 0, 0, 0);
            due("a MONTH with less is DRY", x.run(0, DRY_MONTHS), 9);
        });
        holds(TERMS, "so that COST from that MONTH to MONTH 11 is least on an average", () -> {
            HowBigTank x = ruled(BEST, 0, "a2s2l0w0;u1h0c5;u1h0c9", NO_RAIN, NO_RAIN);
            // One is kept for MONTH 11, and in MONTH 11 nothing for the year behind.
            due("MONTH 11 of YEAR 0", x.month(0, 0, 11, GIVEN) + x.month(0, 0, 11, LEVEL), 0);
            due("MONTH 0 of YEAR 0", x.month(0, 0, 0, GIVEN), 1);
            due("at MONTH 11 with two", x.wise(11, 2, false, 1), 2);
            due("at MONTH 10 with two", x.wise(10, 2, false, 1), 1);
            x = ruled(BEST, 0, "a12s12l0w0;u1h0c9", "000000000001", NO_RAIN);
            due("what the next YEAR lacks is not thought of", x.month(0, 0, 11, GIVEN), 1);
        });
        holds(TERMS, "if the RAIN of each MONTH behind is that of this MONTH in any of the YEARS, each as likely", () -> {
            // Two given in MONTH 10: 14 short in MONTH 11 without RAIN; one given: 5 short, and 5 without RAIN.
            HowBigTank x = of("a2s2l0w0;u1h0c5;u1h0c9", "000000000001", NO_RAIN);
            due("RAIN in one of two", x.wise(10, 2, false, 1), 2);
            addYears(x, NO_RAIN);
            due("RAIN in one of three", x.wise(10, 2, false, 1), 1);
            due("RAIN of this MONTH is known", x.wise(11, 0, true, 1), 0);
        });
        holds(TERMS, "of like ones the fewest pumped, then the most given", () -> {
            HowBigTank x = of("a1s3l0w0p2q1;u1h0c1", NO_RAIN);
            due("pumped for what it saves", x.wise(11, 0, false, 0), 0);
            due("one for MONTH 11 or for MONTH 10", x.wise(10, 1, false, 1), 1);
            x.change(6, 0);
            due("pumped for nothing", x.wise(11, 1, false, 0), 0);
            due("pumped in need", x.wise(11, 0, false, 0), 1);
            due("no more than needed", x.wise(10, 0, false, 0), 1);
            due("for MONTH 7", x.wise(6, 0, false, 0), 2);
            due("not in MONTH 7", x.wise(7, 0, false, 0), 0);
            due("no more is given than is wanted", x.wise(11, 3, false, 1), 1);
            x.change(6, 2);
            due("dearer than what it saves", x.wise(11, 0, false, 0), 0);
            due("and nothing given", x.wise(11, 0, false, 1), 0);
        });
        holds(TERMS, "all YEARS as they were, one behind the other, from MONTH 0 of YEAR 0 at level SIZE", () -> {
            HowBigTank x = ruled(ALL, 0, "a1s14l0w0;u1h0c1", NO_RAIN, NO_RAIN, "010000000000");
            due("DRY MONTHS", x.run(0, DRY_MONTHS), 10 + 11);
            due("the level of MONTH 0", x.month(0, 0, 0, LEVEL), 13);
            due("the level of MONTH 11", x.month(0, 0, 11, LEVEL), 2);
            due("of the next YEAR's MONTH 0", x.month(0, 1, 0, LEVEL), 1);
            due("the level at the end", x.run(0, 6), 0);
            due("RAIN of each YEAR", x.month(0, 2, 1, GIVEN), 1);
        });
        holds(TERMS, "(as if it had rained ahead)", () -> {
            HowBigTank x = ruled(ALL, 0, "a2s9l0w1;u1h0c1", "100000000000", "100000000000");
            due("MONTH 0 of YEAR 0", x.month(0, 0, 0, COMES), 2);
            due("MONTH 0 of YEAR 1", x.month(0, 1, 0, COMES), 1);
            due("it RUNS OVER", x.run(0, 3), 2);
        });
    }

    private static void sums(HowBigTank x, int... want) {
        for (int what = 0; what < want.length; what++) due("run(0, " + what + ")", x.run(0, what), want[what]);
    }

    private static void refusals() {
        holds(13, "0 how many DRY MONTHS, 1 SHORT of all USES, 2 COST, 3 RUNS OVER, 4 pumped, 5 leaked, 6 the level at the end", () -> {
            // 3, 3 (one RUNS OVER), 3 by two pumped up to MONTH 6, 1 in MONTH 7 and on.
            sums(ruled(WELL, 3, "a1s5l0w0k1p2q3;u1h0c2", "030000000000"), 0, 0, 54, 1, 18, 12, 1);
            // 2, 2, 1, 0; two pumped are drawn but in MONTH 7.
            sums(ruled(WELL, 3, "a1s5l0w0k1p2q3;u2h0c2", "030000000000"), 1, 2, 58, 0, 18, 4, 0);
            sums(ruled(ALL, 0, "a20s200l0w0;u1h0c1", "999999999999"), 0, 0, 0, 180 + 11 * 179, 0, 0, 199);
            // Ten tubs are pumped, so that the second USE is never SHORT.
            sums(ruled(BEST, 0, "a1s2l0w0p1q1;u1h0c1;u1h0c9", NO_RAIN), 12, 12, 22, 0, 10, 0, 0);
        });
        holds(13, "10 and a USE: SHORT of it (NONE).", () -> {
            String house = "a1s0l0w0";
            for (int uses = 1; uses <= 3; uses++) {
                house += ";u" + uses + "h0c1";
                HowBigTank x = ruled(ALL, 0, house, NO_RAIN);
                for (int use = 0; use < 3; use++) due("SHORT of " + use, x.run(0, 10 + use), use < uses ? 12 * (use + 1) : NONE);
            }
        });
        holds(13, "OUTSIDE: what (10 to 12 else).", () -> {
            HowBigTank x = new HowBigTank();
            refused(x, "no RULE", () -> x.run(0, 99), UNKNOWN);
            x.rule(ALL, 0);
            refused(x, "no HOUSE, no YEAR", () -> x.run(0, 99), STATE);
            addYears(x, NO_RAIN);
            refused(x, "no HOUSE", () -> x.run(0, 99), STATE);
            put(x, "a1s2l0w0;u1h0c1").house();
            for (int what : new int[] {-1, 7, 8, 9, 13, 20, LOW, HIGH}) refused(x, "what " + what, () -> x.run(0, what), OUTSIDE);
            for (int r : new int[] {-1, 1, 8, LOW, HIGH}) refused(x, "rule " + r, () -> x.run(r, 99), UNKNOWN);
            HowBigTank y = of("a1s2l0w0;u1h0c1");
            y.rule(ALL, 0);
            refused(y, "no YEAR", () -> y.run(0, 99), STATE);
            refused(y, "no YEAR, of a USE that is none", () -> y.run(0, 12), STATE);
        });
        holds(14, "UNKNOWN: year, month, too, ahead of STATE.", () -> {
            HowBigTank x = of("a1s2l0w0;u1h0c1");
            x.rule(ALL, 0);
            refused(x, "no YEAR", () -> x.month(0, 0, 0, 99), UNKNOWN);
            HowBigTank y = addYears(new HowBigTank(), NO_RAIN, NO_RAIN);
            refused(y, "no RULE", () -> y.month(0, 0, 0, 0), UNKNOWN);
            y.rule(ALL, 0);
            refused(y, "no HOUSE", () -> y.month(0, 1, 11, 99), STATE);
            for (int house = 0; house < 2; house++) {
                for (int r : new int[] {-1, 1, 8, LOW, HIGH}) refused(y, "rule " + r, () -> y.month(r, 0, 0, 99), UNKNOWN);
                for (int z : new int[] {-1, 2, 8, LOW, HIGH}) refused(y, "year " + z, () -> y.month(0, z, 0, 99), UNKNOWN);
                for (int m : new int[] {-1, 12, LOW, HIGH}) refused(y, "month " + m, () -> y.month(0, 0, m, 99), UNKNOWN);
                put(y, "a1s2l0w0;u1h0c1").house();
            }
            for (int what : new int[] {-1, 7, LOW, HIGH}) refused(y, "what " + what, () -> y.month(0, 1, 11, what), OUTSIDE);
            due("what 0", y.month(0, 1, 11, 0), 0);
            due("what 6", y.month(0, 1, 11, 6), 1);
        });
    }

    public static void main(String[] args) {
        whatComes();
        pumpsAndDraws();
        plainRules();
        otherRules();
        refusals();
        end();
    }
}
