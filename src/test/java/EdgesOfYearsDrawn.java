/** Boundary cases of a year drawn; promises 19 to 22. All is reckoned by hand. */
public final class EdgesOfYearsDrawn extends Edge {
    private static final String ONE_OF_ONE = "a1s1l0w0;u1h0c1";

    private static void sureIs(HowBigTank x, long above, long below) {
        due("sure above", x.sure(0, 0), above);
        due("sure below", x.sure(0, 1), below);
    }

    private static void meanIs(HowBigTank x, long above, long below) {
        due("mean above", x.mean(0, 0), above);
        due("mean below", x.mean(0, 1), below);
    }

    private static void drawn() {
        holds(TERMS, "from level SIZE (as if it had rained ahead) the RAIN of each MONTH is that of any YEAR, each as likely.", () -> {
            HowBigTank x = ruled(ALL, 0, "a1s12l0w0;u1h0c1", NO_RAIN, NO_RAIN);
            sureIs(x, 1, 1);
            meanIs(x, 0, 1);
            due("its RUN is DRY in the second YEAR", x.run(0, 0), 12);
            x.change(1, 11);
            sureIs(x, 0, 1);
            meanIs(x, 1, 1);
            // MONTH 1 has RAIN in two of three.
            x = ruled(ALL, 0, ONE_OF_ONE, ALL_ONES, "101111111111", ALL_ONES);
            sureIs(x, 2, 3);
            meanIs(x, 1, 3);
            // MONTH 2's RAIN is washed off, if MONTH 1 has none, in two of three, whatever YEAR it is of.
            x = ruled(ALL, 0, "a1s2l0w1;u1h0c1", "011111111111", "001111111111", "001111111111");
            sureIs(x, 1, 3);
            meanIs(x, 2, 3);
        });
        holds(TERMS, "SURE of a RULE: the chance that it has no DRY MONTH; MEAN: its COST on an average.", () -> {
            HowBigTank x = ruled(BEST, 0, "a1s1l0w0p1q1;u1h0c1", NO_RAIN);
            // Pumping is as dear as being SHORT, so it pumps nothing.
            sureIs(x, 0, 1);
            meanIs(x, 11, 1);
            x.change(6, 0);
            // MONTH 7 lacks one tub, in a tank of one.
            sureIs(x, 0, 1);
            meanIs(x, 1, 1);
            x.change(1, 2);
            x.change(5, 2);
            sureIs(x, 1, 1);
            meanIs(x, 0, 1);
            x = ruled(WELL, 200, "a1s2l0w0p2q3;u1h0c9", NO_RAIN);
            // Eleven are pumped: none in MONTHS 0 and 7, two in MONTH 8.
            sureIs(x, 1, 1);
            meanIs(x, 33, 1);
            x = told("1,1,1,1,1,1,1,1,1,1,1,0", "a1s20l0w0;u1h0c7", NO_RAIN, NO_RAIN);
            sureIs(x, 0, 1);
            meanIs(x, 7, 1);
            x = ruled(HEDGE, 200, "a1s20l0w0;u2h0c7", NO_RAIN);
            sureIs(x, 0, 1);
            meanIs(x, 84, 1);
        });
        holds(TERMS, "2 LEAK goes (the level is 0 at least).", () -> {
            meanIs(ruled(ALL, 0, "a1s1l0w0k2;u1h0c1", ALL_ONES), 12, 1);
            meanIs(ruled(ALL, 0, "a1s1l0w0k1;u1h0c1", ALL_ONES, NO_RAIN), 12, 1);
            meanIs(ruled(ALL, 0, "a1s3l0w0k2;u1h0c1", ALL_ONES), 11, 1);
            meanIs(ruled(ALL, 0, "a9s9l0w0;u9h0c1", "999999999999"), 0, 1);
            meanIs(ruled(ALL, 0, "a1s9l0w0k9;u9h0c1", "999999999999"), 108, 1);
        });
        holds(TERMS, "whatever came ahead", () -> {
            // Of the RAIN in MONTH 9 three are kept, and one is given in each MONTH, as that of MONTH 11 is washed off.
            HowBigTank x = ruled(BEST, 0, "a3s3l0w3;u1h0c1;u1h0c9", "000000000201");
            meanIs(x, 3 + 60 + 3, 1);
            due("as in its RUN", x.run(0, 2), 66);
            x.change(3, 0);
            // In MONTH 9 six come, and three in MONTH 11.
            meanIs(x, 3 + 60 + 1, 1);
            // Three come in each of the last MONTHS, as none is washed off behind MONTH 9.
            meanIs(ruled(BEST, 0, "a3s2l0w3;u1h0c1;u1h0c9", "000000000211"), 2 + 70, 1);
        });
    }

    private static void fractions() {
        holds(19, "SURE, in lowest terms: part 0 above, 1 below.", () -> {
            sureIs(ruled(ALL, 0, ONE_OF_ONE, NO_RAIN), 0, 1);
            sureIs(ruled(ALL, 0, ONE_OF_ONE, ALL_ONES), 1, 1);
            sureIs(ruled(ALL, 0, ONE_OF_ONE, ALL_ONES, ALL_ONES, ALL_ONES), 1, 1);
            sureIs(ruled(ALL, 0, ONE_OF_ONE, ALL_ONES, NO_RAIN), 1, 1L << 11);
            sureIs(ruled(ALL, 0, ONE_OF_ONE, ALL_ONES, ALL_ONES, NO_RAIN), 1L << 11, 177147);
            // Two of four is one of two.
            sureIs(ruled(ALL, 0, ONE_OF_ONE, ALL_ONES, NO_RAIN, ALL_ONES, NO_RAIN), 1, 1L << 11);
            // MONTH 0's RAIN counts, too, if without it MONTH 1's is washed off: 8 to the power of 12.
            sureIs(ruled(ALL, 0, "a2s1l0w2;u1h0c1", ALL_ONES, NO_RAIN, NO_RAIN, NO_RAIN, NO_RAIN, NO_RAIN, NO_RAIN, NO_RAIN),
                1, 1L << 36);
            sureIs(ruled(ALL, 0, ONE_OF_ONE, ALL_ONES, ALL_ONES, ALL_ONES, ALL_ONES, ALL_ONES, ALL_ONES, ALL_ONES, NO_RAIN),
                1977326743L, 1L << 33);
        });
        holds(20, "MEAN, in lowest terms.", () -> {
            meanIs(ruled(ALL, 0, ONE_OF_ONE, ALL_ONES), 0, 1);
            meanIs(ruled(ALL, 0, ONE_OF_ONE, NO_RAIN), 11, 1);
            meanIs(ruled(ALL, 0, ONE_OF_ONE, ALL_ONES, NO_RAIN), 11, 2);
            meanIs(ruled(ALL, 0, ONE_OF_ONE, ALL_ONES, NO_RAIN, ALL_ONES, NO_RAIN), 11, 2);
            meanIs(ruled(ALL, 0, "a1s1l0w0;u1h0c2", ALL_ONES, NO_RAIN), 11, 1);
            meanIs(ruled(ALL, 0, "a1s1l0w0;u1h0c3", ALL_ONES, NO_RAIN, ALL_ONES), 11, 1);
            String most = "a20s0l0w0;u15h9c9;u15h9c9;u15h9c9";
            meanIs(ruled(ALL, 0, most, NO_RAIN, NO_RAIN, NO_RAIN, NO_RAIN, NO_RAIN, NO_RAIN, NO_RAIN, NO_RAIN), 5589, 1);
            // Of MONTH 1 the last way of 8, of the others none.
            meanIs(ruled(ALL, 0, "a1s1l0w0;u1h0c9", ALL_ONES, ALL_ONES, ALL_ONES, ALL_ONES, ALL_ONES, ALL_ONES, ALL_ONES, "101111111111"), 9, 8);
        });
        holds(19, "UNKNOWN: rule; OUTSIDE: part.", () -> {
            HowBigTank none = addYears(new HowBigTank(), NO_RAIN);
            refused(none, "no RULE", () -> none.sure(0, 2), UNKNOWN);
            none.rule(ALL, 0);
            refused(none, "no HOUSE", () -> none.sure(0, 2), STATE);
            HowBigTank x = of(ONE_OF_ONE);
            x.rule(ALL, 0);
            refused(x, "no YEAR", () -> x.sure(0, 2), STATE);
            addYears(x, NO_RAIN);
            for (int r : new int[] {-1, 1, 8, LOW, HIGH}) refused(x, "rule " + r, () -> x.sure(r, 2), UNKNOWN);
            for (int part : new int[] {-1, 2, LOW, HIGH}) refused(x, "part " + part, () -> x.sure(0, part), OUTSIDE);
        });
        holds(20, "UNKNOWN: rule; OUTSIDE: part.", () -> {
            HowBigTank none = addYears(new HowBigTank(), NO_RAIN);
            refused(none, "no RULE", () -> none.mean(0, 2), UNKNOWN);
            none.rule(ALL, 0);
            refused(none, "no HOUSE", () -> none.mean(0, 2), STATE);
            HowBigTank x = of(ONE_OF_ONE);
            x.rule(ALL, 0);
            refused(x, "no YEAR", () -> x.mean(0, 2), STATE);
            addYears(x, NO_RAIN);
            for (int r : new int[] {-1, 1, 8, LOW, HIGH}) refused(x, "rule " + r, () -> x.mean(r, 2), UNKNOWN);
            for (int part : new int[] {-1, 2, LOW, HIGH}) refused(x, "part " + part, () -> x.mean(0, part), OUTSIDE);
        });
    }

    private static void whatIsReckonedOnceIsReckonedAnew() {
        holds(20, "MEAN", () -> {
            HowBigTank x = ruled(ALL, 0, ONE_OF_ONE, NO_RAIN);
            x.rule(BEST, 0);
            x.image();
            meanIs(x, 11, 1);
            due("a BEST", x.mean(1, 0), 11);
            addYears(x, ALL_ONES);
            meanIs(x, 11, 2);
            due("a BEST behind another YEAR", x.mean(1, 0), 11);
            x.change(1, 0);
            meanIs(x, 12, 1);
            x.change(5, 5);
            due("a BEST behind a change, and no place to pump to", x.mean(1, 0), 12);
            x.change(1, 5);
            due("a BEST behind two changes", x.mean(1, 0), 0);
            x.change(1, 1);
            meanIs(x, 11, 2);
            x.restore();
            meanIs(x, 11, 1);
            due("a BEST, restored", x.mean(1, 0), 11);
            put(x, "a1s1l0w0;u1h0c2").house();
            meanIs(x, 22, 1);
            due("a BEST of another HOUSE", x.mean(1, 0), 22);
        });
        holds(11, "What houseTold() tells for 0 to 6 becomes v", () -> {
            HowBigTank x = ruled(ALL, 0, "a2s1l0w0;u1h0c1", "101010101010");
            meanIs(x, 6, 1);
            x.change(3, 2);
            meanIs(x, 11, 1);
            x.image();
            x.change(0, 4);
            meanIs(x, 6, 1);
            x.restore();
            meanIs(x, 11, 1);
            x.change(3, 0);
            meanIs(x, 6, 1);
            x.change(2, 2);
            meanIs(x, 11, 1);
            x.change(2, 1);
            meanIs(x, 6, 1);
            x.change(4, 1);
            meanIs(x, 12, 1);
        });
    }

    private static void wise() {
        holds(21, "What a BEST does in a MONTH at a level (behind 2): what = 0 pumps, 1 gives together (at most).", () -> {
            HowBigTank x = of("a1s9l0w0k9p3q1;u2h0c2;u3h0c9", NO_RAIN);
            // All leaks away, so nothing is kept.
            for (int level = 0; level <= 9; level++) {
                due("pumps at " + level, x.wise(11, level, false, 0), Math.min(3, Math.max(0, 5 - level)));
                due("gives at " + level, x.wise(11, level, false, 1), Math.min(5, level + 3));
                due("pumps in MONTH 7 at " + level, x.wise(7, level, false, 0), 0);
                due("gives in MONTH 7 at " + level, x.wise(7, level, false, 1), Math.min(5, level));
            }
            x.change(5, 5);
            due("up to SIZE", x.wise(11, 8, false, 0), 0);
            x.change(1, 3);
            due("up to a less SIZE", x.wise(11, 1, false, 0), 2);
            due("no place", x.wise(11, 3, false, 0), 0);
        });
        holds(TERMS, "chooses how many to pump and how many to give together at most", () -> {
            HowBigTank x = of("a20s200l0w0k9p5q8;u15h9c9;u15h9c9;u15h9c9", NO_RAIN);
            // Up to 80 what is kept leaks away.
            for (int level = 60; level <= 80; level++) {
                due("pumps at " + level, x.wise(5, level, true, 0), Math.min(5, Math.max(0, 72 - level)));
                due("gives at " + level, x.wise(5, level, true, 1), Math.min(72, level + 5));
            }
            due("pumps for MONTH 6", x.wise(5, 120, true, 0), 5);
            due("no place for it", x.wise(5, 200, true, 0), 0);
            due("all that is wanted", x.wise(5, 200, true, 1), 72);
            due("all that is wanted, not HOT", x.wise(11, 200, true, 1), 45);
        });
        holds(21, "OUTSIDE: month, level (0 to SIZE), what", () -> {
            HowBigTank none = addYears(new HowBigTank(), NO_RAIN);
            refused(none, "no HOUSE", () -> none.wise(12, -1, true, 2), STATE);
            HowBigTank x = of("a1s9l0w0;u1h0c1");
            refused(x, "no YEAR", () -> x.wise(12, -1, true, 2), STATE);
            addYears(x, NO_RAIN);
            due("level 0", x.wise(0, 0, true, 1), 0);
            due("level SIZE", x.wise(11, 9, true, 1), 1);
            for (int m : new int[] {-1, 12, LOW, HIGH}) refused(x, "month " + m, () -> x.wise(m, 0, true, 0), OUTSIDE);
            for (int l : new int[] {-1, 10, LOW, HIGH}) refused(x, "level " + l, () -> x.wise(0, l, true, 0), OUTSIDE);
            for (int w : new int[] {-1, 2, LOW, HIGH}) refused(x, "what " + w, () -> x.wise(0, 0, true, w), OUTSIDE);
            x.change(1, 200);
            due("level 200", x.wise(11, 200, false, 1), 1);
            refused(x, "level 201", () -> x.wise(11, 201, false, 1), OUTSIDE);
            x.change(1, 0);
            due("level 0 of 0", x.wise(11, 0, false, 1), 0);
            refused(x, "level 1 of 0", () -> x.wise(11, 1, false, 1), OUTSIDE);
        });
        holds(21, "whether this MONTH had RAIN", () -> {
            // What comes in MONTH 11 is washed off, if MONTH 10 had no RAIN; then one is kept.
            HowBigTank x = of("a3s3l0w3;u1h0c1;u1h0c9", "000000000001");
            due("RAIN in MONTH 10", x.wise(10, 2, true, 1), 2);
            due("no RAIN in MONTH 10", x.wise(10, 2, false, 1), 1);
            due("RAIN in MONTH 11", x.wise(11, 2, true, 1), 2);
            due("no RAIN in MONTH 11", x.wise(11, 2, false, 1), 2);
        });
    }

    private static void hedge() {
        holds(TERMS, "BEST HEDGE: the n (0 to SIZE) by which the MEAN of a HEDGE is least, of like ones the least.", () -> {
            due("nothing to halve", of("a1s3l0w0;u2h0c1;u2h0c9", NO_RAIN).hedge(), 0);
            due("SIZE 0", of("a1s0l0w0;u2h0c1;u2h0c9", NO_RAIN).hedge(), 0);
            // Full to 2; then 2 and 0: 18; halved below 3: 1 and 1: 10.
            due("the least that halves 2", of("a1s6l0w0;u2h0c1;u2h0c9", NO_RAIN).hedge(), 3);
            // Behind the LEAK 3: 3 and 0: 18; halved below 4: 1 and 1: 11.
            due("SIZE", of("a1s4l0w0k1;u3h0c1;u2h0c9", NO_RAIN).hedge(), 4);
            // An n of 5 would halve the full tank: 1 and 1, and as much in MONTH 1.
            due("no more than SIZE", of("a1s4l0w0;u3h0c1;u2h0c9", NO_RAIN).hedge(), 0);
            HowBigTank x = of("a1s6l0w0;u2h0c1;u2h0c9", NO_RAIN);
            x.change(1, 2);
            due("of a less SIZE", x.hedge(), 0);
            due("of 200", of("a20s200l0w0k1;u15h0c1;u1h0c1", "999999999999").hedge(), 0);
        });
        holds(22, "STATE, too: it was done twice ever (refusals do not count, all else does).", () -> {
            HowBigTank x = of("a1s6l0w0;u2h0c1;u2h0c9");
            for (int i = 0; i < 3; i++) refused(x, "no YEAR", x::hedge, STATE);
            addYears(x, NO_RAIN);
            due("none done", x.count(7), 0);
            due("the first time", x.hedge(), 3);
            due("one done", x.count(7), 1);
            x.image();
            due("the second time", x.hedge(), 3);
            refused(x, "the third time", x::hedge, STATE);
            x.restore();
            refused(x, "restored", x::hedge, STATE);
            put(x, "a1s6l0w0;u2h0c1").house();
            refused(x, "ever", x::hedge, STATE);
            due("two done", x.count(7), 2);
            HowBigTank none = addYears(new HowBigTank(), NO_RAIN);
            refused(none, "no HOUSE", none::hedge, STATE);
            due("no search was done", x.count(6), 0);
        });
    }

    public static void main(String[] args) {
        drawn();
        fractions();
        whatIsReckonedOnceIsReckonedAnew();
        wise();
        hedge();
        end();
    }
}
