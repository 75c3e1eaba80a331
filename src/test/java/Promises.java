import java.util.ArrayList;
import java.util.List;

/** For each promise: ordinary inputs, the edges that the document names, wrong inputs; all reckoned by hand. */
public final class Promises {
    private static final int NONE = -1, UNKNOWN = -101, OUTSIDE = -102, STATE = -103, FULL = -104;
    private static final int LOW = Integer.MIN_VALUE, HIGH = Integer.MAX_VALUE;
    private static final String TWO_USES = "a2s9l1w2;u2h3c4;u3h0c9";
    private static final String PUMPED = "a2s9l1w2p2q3;u2h3c4;u3h0c9";
    private static final String WETTISH = "310000002111";
    private static final String NO_RAIN = "000000000000", ALL_ONES = "111111111111";
    private static int wrong = 0;
    private static int promise;

    private static void due(String what, long got, long want) {
        if (got != want) {
            wrong++;
            System.out.println("promise " + promise + ": " + what + " answered " + got + ", due is " + want);
        }
    }

    private static long word(String s) {
        long w = 0;
        for (int i = 0; i < s.length(); i++) w |= (long) s.charAt(i) << 8 * i;
        return w;
    }

    private static int put(HowBigTank x, String s) {
        int n = x.letters(0);
        for (int i = 0; i < s.length(); i += 8) n = x.letters(word(s.substring(i, Math.min(s.length(), i + 8))));
        return n;
    }

    private static HowBigTank of(String house, String... years) {
        HowBigTank x = new HowBigTank();
        put(x, house);
        due("house of " + house, x.house() > 0 ? 1 : 0, 1);
        for (String y : years) {
            put(x, y);
            due("year of " + y, x.year() >= 0 ? 1 : 0, 1);
        }
        return x;
    }

    private static void isFault(int sort, String text, int place) {
        HowBigTank x = new HowBigTank();
        put(x, text);
        due("fault(" + sort + ") of " + text, x.fault(sort), place);
        due("fault() keeps the page", x.count(4), text.length());
    }

    private static void newObject() {
        HowBigTank x = new HowBigTank();
        for (int what = 0; what <= 7; what++) due("count(" + what + ")", x.count(what), 0);
        due("houseTold", x.houseTold(0), STATE);
        due("rain", x.rain(0, 0), UNKNOWN);
        due("as", x.as(0, 0), UNKNOWN);
        due("restore", x.restore(), STATE);
        for (int m = 0; m < 12; m++) due("read", x.read(m, NONE), NONE);
        due("constants", HowBigTank.NONE == NONE && HowBigTank.UNKNOWN == UNKNOWN && HowBigTank.OUTSIDE == OUTSIDE
            && HowBigTank.STATE == STATE && HowBigTank.FULL == FULL ? 1 : 0, 1);
    }

    private static void letters() {
        HowBigTank x = new HowBigTank();
        due("none", x.letters(0), 0);
        due("one", x.letters('a'), 1);
        due("two, the lowest byte first", x.letters(word("7s")), 3);
        due("that order", x.fault(0), 3);
        due("126", x.letters(126), 4);
        due("127", x.letters(127), OUTSIDE);
        due("255", x.letters(255), OUTSIDE);
        due("all ones", x.letters(-1L), OUTSIDE);
        due("the highest byte above 126", x.letters(0x8041414141414141L), OUTSIDE);
        due("behind a 0", x.letters(0x410041L), OUTSIDE);
        due("a 0 first", x.letters(0x4100L), OUTSIDE);
        due("above 126 behind a 0", x.letters(0x7f0041L), OUTSIDE);
        due("refusals change nothing", x.count(4), 4);
        for (int i = 0; i < 6; i++) x.letters(word("abcdefgh"));
        due("56", x.letters(word("1234")), 56);
        due("61 would be", x.letters(word("12345")), FULL);
        due("OUTSIDE ahead of FULL", x.letters(0x7f41414141414141L), OUTSIDE);
        due("60", x.letters(word("1234")), 60);
        due("none more", x.letters(0), 60);
        due("one more", x.letters(1), FULL);
        due("60 stay", x.blank(), 60);
    }

    private static void blank() {
        HowBigTank x = new HowBigTank();
        due("empty", x.blank(), 0);
        put(x, "a1s2");
        due("four", x.blank(), 4);
        due("empty again", x.blank(), 0);
        put(x, NO_RAIN);
        due("what is behind is read alone", x.year(), 0);
    }

    private static void fault() {
        HowBigTank x = new HowBigTank();
        due("sort 3", x.fault(3), OUTSIDE);
        due("sort -1", x.fault(-1), OUTSIDE);
        due("sort low", x.fault(LOW), OUTSIDE);
        due("empty", x.fault(0) + x.fault(1) + x.fault(2), 0);
        String whole = "a20s200l9w9k9p5q9;u15h9c9;u15h9c9;u15h9c9";
        for (int i = 0; i <= whole.length(); i++) isFault(0, whole.substring(0, i), i);
        isFault(0, whole + ";", 41);
        isFault(0, "b", 0);
        isFault(0, "a0", 1);
        isFault(0, "a01", 1);
        isFault(0, "a21s", 2);
        isFault(0, "a30", 2);
        isFault(0, "a200", 3);
        isFault(0, "aa", 1);
        isFault(0, "a1s01", 4);
        isFault(0, "a1s0l", 5);
        isFault(0, "a1s201", 5);
        isFault(0, "a1s210", 4 + 1);
        isFault(0, "a1s2000", 6);
        isFault(0, "a1s99l", 6);
        isFault(0, "a1s1l10", 6);
        isFault(0, "a1s1l1w1x", 8);
        isFault(0, "a1s1l1w1q", 8);
        isFault(0, "a1s1l1w1p0", 9);
        isFault(0, "a1s1l1w1p6", 9);
        isFault(0, "a1s1l1w1p5;", 10);
        isFault(0, "a1s1l1w1p5q1k", 12);
        isFault(0, "a1s1l1w1k1k", 10);
        isFault(0, "a1s1l1w1;u0", 10);
        isFault(0, "a1s1l1w1;u16", 11);
        isFault(0, "a1s1l1w1;u15h1c0", 15);
        isFault(0, "a1s1l1w1;u15h1c1 ", 16);
        isFault(0, "a1s1l1w1;u15h1c11", 16);
        isFault(0, "A1", 0);
        for (int i = 0; i <= 12; i++) isFault(1, "012345678999".substring(0, i), i);
        isFault(1, "0123456789990", 12);
        isFault(1, "01234a", 5);
        isFault(1, "/", 0);
        isFault(1, ":", 0);
        String rule = "0,99,10,1,2,3,4,5,6,7,8,9";
        for (int i = 0; i <= rule.length(); i++) isFault(2, rule.substring(0, i), i);
        isFault(2, rule + "9", 26);
        isFault(2, rule + "99", 26);
        isFault(2, rule + ",", 25);
        isFault(2, "00", 1);
        isFault(2, "100", 2);
        isFault(2, ",", 0);
        isFault(2, "1,,", 2);
    }

    private static void house() {
        HowBigTank x = new HowBigTank();
        due("an empty page", x.house(), STATE);
        put(x, "a1s1l1w1");
        due("no use", x.house(), STATE);
        due("the page stays", x.count(4), 8);
        put(x, ";u1h1c1");
        due("one use", x.house(), 1);
        due("the page is empty", x.count(4), 0);
        put(x, "a1s1l1w1;u1h1c1;u1h1c1;u1h1c1;");
        due("a letter too many", x.house(), STATE);
        x.blank();
        put(x, NO_RAIN);
        x.year();
        x.rule(0, 0);
        x.read(0, 4);
        put(x, "a3s1l1w1k2;u1h1c1;u2h2c2;u3h3c3");
        due("another one", x.house(), 3);
        due("its area", x.houseTold(0), 3);
        due("years, rules, readings stay", x.count(1) + 10 * x.count(2) + 100 * x.count(3), 111);
        due("read twice", x.count(5), 2);
        put(x, "a3s1l1w1;u1h1c1");
        x.house();
        due("the leak of the one ahead is gone", x.houseTold(4), 0);
        due("the uses of the one ahead are gone", x.houseTold(20), NONE);
    }

    private static void year() {
        HowBigTank x = new HowBigTank();
        due("an empty page", x.year(), STATE);
        put(x, "01234567890");
        due("eleven", x.year(), STATE);
        due("the page stays", x.count(4), 11);
        put(x, "12");
        due("thirteen", x.year(), STATE);
        x.blank();
        for (int y = 0; y < 8; y++) {
            put(x, "01234567890" + y);
            due("year", x.year(), y);
            due("the page is empty", x.count(4), 0);
        }
        due("STATE ahead of FULL", x.year(), STATE);
        put(x, NO_RAIN);
        due("the ninth", x.year(), FULL);
        due("the page stays", x.count(4), 12);
        due("eight", x.count(1), 8);
    }

    private static void tell() {
        HowBigTank x = new HowBigTank();
        due("an empty page", x.tell(), STATE);
        put(x, "1,2,3,4,5,6,7,8,9,10,11");
        due("eleven", x.tell(), STATE);
        put(x, ",99");
        due("a rule", x.tell(), 0);
        due("the page is empty", x.count(4), 0);
        for (int r = 1; r < 8; r++) x.rule(0, 0);
        put(x, "1,");
        due("STATE ahead of FULL", x.tell(), STATE);
        x.blank();
        put(x, "1,2,3,4,5,6,7,8,9,10,11,0");
        due("the ninth", x.tell(), FULL);
        due("the page stays", x.count(4), 25);
        HowBigTank y = of("a1s20l0w0;u5h2c3;u5h0c1", NO_RAIN);
        put(y, "0,7,5,0,0,0,0,0,0,0,0,99");
        y.tell();
        due("no more than it tells", y.month(0, 0, 0, 4), 0);
        due("by worth", y.month(0, 0, 1, 6), 3);
        due("then", y.month(0, 0, 2, 6), 5);
        due("what is there", y.month(0, 0, 11, 4), 8);
        due("what is wanted", y.month(0, 0, 11, 6), 2);
    }

    private static HowBigTank ruled(String house, String year, int kind, int n) {
        HowBigTank x = of(house, year);
        due("a rule", x.rule(kind, n), 0);
        return x;
    }

    private static void kinds() {
        due("a HEDGE at its n", ruled("a1s4l0w0;u4h0c1", NO_RAIN, 1, 4).month(0, 0, 0, 4), 4);
        due("a HEDGE below it", ruled("a1s4l0w0;u4h0c1", NO_RAIN, 1, 5).month(0, 0, 0, 4), 2);
        due("half is rounded down", ruled("a1s4l0w0;u3h0c1", NO_RAIN, 1, 5).month(0, 0, 0, 4), 1);
        due("half of HOT, too", ruled("a1s99l0w0;u3h4c1", NO_RAIN, 1, 200).month(0, 0, 5, 4), 3);
        due("a WELL at its n", ruled("a1s9l0w0p1q1;u4h0c1", NO_RAIN, 4, 5).month(0, 0, 1, 3), 0);
        due("a WELL below it", ruled("a1s9l0w0p1q1;u4h0c1", NO_RAIN, 4, 6).month(0, 0, 1, 3), 1);
        HowBigTank like = ruled("a1s5l0w0;u2h0c5;u2h0c9;u2h0c5", NO_RAIN, 2, 0);
        due("of like worth the least", like.run(0, 10), 22);
        due("the greatest worth", like.run(0, 11), 22);
        due("the last", like.run(0, 12), 23);
        due("hot from month 5", ruled("a1s0l0w0;u1h2c1", NO_RAIN, 0, 0).run(0, 2), 9 + 3 * 3);
    }

    private static void rule() {
        HowBigTank x = new HowBigTank();
        for (int kind = 0; kind <= 4; kind++) due("kind " + kind, x.rule(kind, 0), kind);
        due("a HEDGE of 200", x.rule(1, 200), 5);
        due("a WELL of 200", x.rule(4, 200), 6);
        due("a HEDGE of 201", x.rule(1, 201), OUTSIDE);
        due("a WELL of 201", x.rule(4, 201), OUTSIDE);
        due("a HEDGE of -1", x.rule(1, -1), OUTSIDE);
        due("an ALL of 1", x.rule(0, 1), OUTSIDE);
        due("a FIRST of 1", x.rule(2, 1), OUTSIDE);
        due("a BEST of 1", x.rule(3, 1), OUTSIDE);
        due("a TOLD", x.rule(5, 0), OUTSIDE);
        due("kind -1", x.rule(-1, 0), OUTSIDE);
        due("kind low", x.rule(LOW, 0), OUTSIDE);
        due("n high", x.rule(1, HIGH), OUTSIDE);
        due("seven", x.count(2), 7);
        due("the eighth", x.rule(0, 0), 7);
        due("the ninth", x.rule(0, 0), FULL);
        due("OUTSIDE ahead of FULL", x.rule(0, 1), OUTSIDE);
    }

    private static void as() {
        HowBigTank x = new HowBigTank();
        for (int kind = 4; kind >= 0; kind--) x.rule(kind, 0);
        put(x, "1,2,3,4,5,6,7,8,9,10,11,0");
        x.tell();
        int[] kinds = {4, 3, 2, 1, 0, 5};
        for (int r = 0; r < 6; r++) {
            for (int kind = 0; kind <= 5; kind++) {
                boolean is = kind == 0 || kind == kinds[r] || kind == 2 && kinds[r] > 2;
                due("a " + kinds[r] + " as a " + kind, x.as(r, kind), is ? r : NONE);
            }
            due("kind 6", x.as(r, 6), OUTSIDE);
            due("kind -1", x.as(r, -1), OUTSIDE);
        }
        due("no such rule", x.as(6, 0), UNKNOWN);
        due("rule -1", x.as(-1, 0), UNKNOWN);
        due("UNKNOWN ahead of OUTSIDE", x.as(HIGH, LOW), UNKNOWN);
    }

    private static void houseTold() {
        HowBigTank x = new HowBigTank();
        due("STATE ahead of OUTSIDE", x.houseTold(8), STATE);
        put(x, "a20s200l9w8k7p5q6;u15h4c3;u2h0c1");
        x.house();
        int[] told = {20, 200, 9, 8, 7, 5, 6, 2};
        for (int what = 0; what < 8; what++) due("houseTold(" + what + ")", x.houseTold(what), told[what]);
        int[] uses = {15, 4, 3, 2, 0, 1, NONE, NONE, NONE};
        for (int i = 0; i < 9; i++) due("use", x.houseTold(10 * (i / 3) + 10 + i % 3), uses[i]);
        for (int what : new int[] {-1, 8, 9, 13, 19, 23, 29, 33, 40, 110, LOW, HIGH, -10}) {
            due("houseTold(" + what + ")", x.houseTold(what), OUTSIDE);
        }
        HowBigTank y = of("a1s0l0w0;u1h0c1");
        due("no leak, pump, price told", y.houseTold(4) + y.houseTold(5) + y.houseTold(6), 0);
        HowBigTank z = of("a1s0l0w0k3;u1h0c1");
        due("a leak alone", z.houseTold(4) * 10 + z.houseTold(5), 30);
    }

    private static void change() {
        HowBigTank x = new HowBigTank();
        due("STATE ahead of OUTSIDE", x.change(9, 9), STATE);
        put(x, "a2s9l1w2;u2h3c4");
        x.house();
        int[] was = {2, 9, 1, 2, 0, 0, 0}, most = {20, 200, 9, 9, 9, 5, 9};
        for (int what = 0; what < 7; what++) {
            int least = what == 0 ? 1 : 0;
            due("too much", x.change(what, most[what] + 1), OUTSIDE);
            due("too little", x.change(what, least - 1), OUTSIDE);
            due("low", x.change(what, LOW), OUTSIDE);
            due("what it was", x.change(what, most[what]), was[what]);
            due("the most", x.houseTold(what), most[what]);
            due("the most was", x.change(what, least), most[what]);
            due("the least", x.houseTold(what), least);
        }
        due("how many uses", x.change(7, 1), OUTSIDE);
        due("a use", x.change(10, 1), OUTSIDE);
        due("-1", x.change(-1, 1), OUTSIDE);
        HowBigTank y = of(TWO_USES, WETTISH);
        y.rule(0, 0);
        due("cost", y.run(0, 2), 370);
        y.mean(0, 0);
        y.change(1, 0);
        due("cost without a tank", y.run(0, 2), 6 * 47 / 2 + 9 * 35);
        due("no level but 0", y.wise(0, 1, true, 0), OUTSIDE);
        due("no chance but one: none", y.mean(0, 0), 456);
    }

    private static void rain() {
        HowBigTank x = new HowBigTank();
        put(x, "012345678909");
        x.year();
        for (int m = 0; m < 12; m++) due("month " + m, x.rain(0, m), m == 11 ? 9 : m % 10);
        due("month 12", x.rain(0, 12), UNKNOWN);
        due("month -1", x.rain(0, -1), UNKNOWN);
        due("year 1", x.rain(1, 0), UNKNOWN);
        due("year -1", x.rain(-1, 0), UNKNOWN);
        due("year low", x.rain(LOW, HIGH), UNKNOWN);
    }

    private static void sums(HowBigTank x, int rule, int... want) {
        for (int what = 0; what < 7; what++) due("run(" + rule + ", " + what + ")", x.run(rule, what), want[what]);
        for (int use = 0; use < 3; use++) due("short of " + use, x.run(rule, 10 + use), want[7 + use]);
    }

    private static void run() {
        HowBigTank x = new HowBigTank();
        due("no rule", x.run(0, 99), UNKNOWN);
        x.rule(0, 0);
        due("no house, no year", x.run(0, 99), STATE);
        put(x, WETTISH);
        x.year();
        due("no house", x.run(0, 0), STATE);
        put(x, PUMPED);
        x.house();
        x.rule(1, 6);
        x.rule(2, 0);
        x.rule(4, 4);
        sums(x, 0, 10, 55, 370, 5, 0, 0, 0, 25, 30, NONE);
        sums(x, 1, 11, 55, 375, 5, 0, 0, 0, 24, 31, NONE);
        sums(x, 2, 10, 55, 350, 5, 0, 0, 0, 29, 26, NONE);
        sums(x, 3, 10, 37, 242, 5, 18, 0, 0, 29, 8, NONE);
        x.change(4, 1);
        sums(x, 0, 11, 61, 404, 5, 0, 6, 0, 29, 32, NONE);
        for (int what : new int[] {-1, 7, 9, 13, LOW, HIGH}) due("what", x.run(0, what), OUTSIDE);
        due("no such rule", x.run(4, 0), UNKNOWN);
        due("rule -1", x.run(-1, 0), UNKNOWN);
        HowBigTank best = ruled("a1s2l0w0p1q1;u1h0c1;u1h0c9", NO_RAIN, 3, 0);
        due("a BEST alone", best.run(0, 2), 22);
        best.change(5, 0);
        due("a BEST without a pump", best.run(0, 2), 10 * 10 + 2);
        HowBigTank y = of("a1s2l0w1;u1h0c1", NO_RAIN, "200000000000");
        y.rule(0, 0);
        due("a year goes on from the one ahead: wash", y.month(0, 1, 0, 0), 1);
        due("dry", y.run(0, 0), 10 + 11);
    }

    private static void month() {
        HowBigTank x = new HowBigTank();
        x.rule(0, 0);
        due("no year", x.month(0, 0, 0, 99), UNKNOWN);
        put(x, WETTISH);
        x.year();
        due("STATE ahead of OUTSIDE", x.month(0, 0, 0, 99), STATE);
        due("UNKNOWN ahead of STATE", x.month(0, 0, 12, 0), UNKNOWN);
        put(x, "a2s9l1w2k1p2q3;u2h3c4;u3h0c9");
        x.house();
        int[][] all = {{5, 5, 1, 0, 5, 3, 0}, {1, 0, 1, 0, 3, 0, 18}, {0, 0, 0, 0, 0, 0, 35}};
        for (int m = 0; m < 3; m++) {
            for (int what = 0; what < 7; what++) due("month " + m + " what " + what, x.month(0, 0, m, what), all[m][what]);
        }
        x.rule(4, 200);
        int[] well = {5, 5, 1, 1, 5, 4, 3};
        for (int what = 0; what < 7; what++) due("pumped up to the size, what " + what, x.month(1, 0, 0, what), well[what]);
        due("no pumping in month 7", x.month(1, 0, 7, 3), 0);
        due("pumping in month 6", x.month(1, 0, 6, 3), 2);
        due("hot in month 7", x.month(0, 0, 7, 6), 47);
        due("not in month 4", x.month(0, 0, 4, 6), 35);
        due("less for the wash", x.month(0, 0, 8, 0), 1);
        due("what 7", x.month(0, 0, 0, 7), OUTSIDE);
        due("what -1", x.month(0, 0, 0, -1), OUTSIDE);
        due("year 1", x.month(0, 1, 0, 0), UNKNOWN);
        due("rule 2", x.month(2, 0, 0, 0), UNKNOWN);
        due("month -1", x.month(0, 0, -1, 0), UNKNOWN);
        HowBigTank y = of("a1s9l9w9;u1h0c1", ALL_ONES);
        y.rule(0, 0);
        due("0 at least", y.month(0, 0, 0, 0), 0);
    }

    private static void never() {
        HowBigTank x = of("a1s5l0w0;u1h0c1");
        due("no year", x.never(9), STATE);
        put(x, ALL_ONES);
        x.year();
        due("a size", x.never(0), 1);
        due("a year", x.never(1), 0);
        due("a month", x.never(2), 0);
        due("what 3", x.never(3), OUTSIDE);
        due("what -1", x.never(-1), OUTSIDE);
        due("without a house", new HowBigTank().never(0), STATE);
        put(x, NO_RAIN);
        x.year();
        due("for the second year", x.never(0), 13);
        due("the year", x.never(1), 1);
        due("the month", x.never(2), 11);
        HowBigTank y = of("a1s5l0w0;u15h9c1", NO_RAIN);
        due("none", y.never(0), NONE);
        due("no year", y.never(1), NONE);
        due("no month", y.never(2), NONE);
        due("the size stays", y.houseTold(1), 5);
        HowBigTank z = of("a1s5l0w0;u15h0c1", NO_RAIN);
        due("180", z.never(0), 180);
        due("the last month", z.never(2), 11);
        HowBigTank full = ruled("a1s5l0w0k2;u14h3c1", "000001000000", 0, 0);
        due("200", full.never(0), 200);
        due("for the last month", full.never(2), 11);
        due("200 by the cost", full.cheapest(0, 0, 0), 200);
        HowBigTank big = of("a1s5l0w0k2p5q0;u14h2c1", NO_RAIN);
        due("198 and the leak", big.never(0), 14 * 12 + 6 + 24);
        big.change(4, 3);
        due("210 is none", big.never(0), NONE);
    }

    private static void let() {
        HowBigTank x = of("a1s5l0w0;u2h0c1", NO_RAIN);
        due("0", x.let(0), 24);
        due("1", x.let(1), 22);
        due("11", x.let(11), 2);
        due("12", x.let(12), 0);
        due("96", x.let(96), 0);
        due("97", x.let(97), OUTSIDE);
        due("-1", x.let(-1), OUTSIDE);
        HowBigTank y = of("a1s5l0w0;u15h9c9;u15h9c9;u15h9c9", NO_RAIN);
        due("200 for four months", y.let(8), 180);
        due("not for five", y.let(7), NONE);
        HowBigTank z = new HowBigTank();
        due("STATE ahead of OUTSIDE", z.let(97), STATE);
    }

    private static void cheapest() {
        HowBigTank x = of("a1s5l0w0;u1h0c1");
        due("no rule", x.cheapest(0, 5, 0), UNKNOWN);
        x.rule(0, 0);
        x.rule(3, 0);
        due("no year", x.cheapest(0, 100, 0), STATE);
        put(x, ALL_ONES);
        x.year();
        due("by 5", x.cheapest(0, 5, 0), 1);
        due("by 5 together", x.cheapest(0, 5, 1), 5);
        due("by 12, the least", x.cheapest(0, 12, 0), 0);
        due("by 12 together", x.cheapest(0, 12, 1), 12);
        due("for nothing", x.cheapest(0, 0, 0), 1);
        due("by 99", x.cheapest(0, 99, 1), 12);
        due("price 100", x.cheapest(0, 100, 0), OUTSIDE);
        due("price -1", x.cheapest(0, -1, 0), OUTSIDE);
        due("what 2", x.cheapest(0, 1, 2), OUTSIDE);
        due("a BEST", x.cheapest(1, 100, 9), STATE);
        due("rule 2", x.cheapest(2, 100, 9), UNKNOWN);
        due("the size stays", x.houseTold(1), 5);
        due("six done", x.count(6), 6);
        for (int i = 6; i < 20; i++) due("the " + i + "th", i % 2 == 0 ? x.share(5, 5, 2) : x.cheapest(0, 5, 1), 5);
        due("done 20 times", x.cheapest(0, 5, 0), STATE);
        due("share, too", x.share(5, 5, 0), STATE);
        due("OUTSIDE ahead of it", x.cheapest(0, 100, 0), OUTSIDE);
        due("20", x.count(6), 20);
        due("no more area", ruled("a1s5l0w0;u1h0c9", "000000100000", 0, 0).cheapest(0, 2, 1), 22);
    }

    private static void share() {
        HowBigTank x = of("a1s5l0w0;u1h0c9");
        due("no year", x.share(100, 0, 0), STATE);
        put(x, "000000100000");
        x.year();
        int[] want = {6, 5, 17}, dear = {11, 0, 22};
        for (int what = 0; what < 3; what++) {
            due("share(2, 1, " + what + ")", x.share(2, 1, what), want[what]);
            due("of like ones the least e", x.share(2, 2, what), dear[what]);
        }
        due("price 100", x.share(100, 1, 0), OUTSIDE);
        due("roof 100", x.share(1, 100, 0), OUTSIDE);
        due("roof -1", x.share(1, -1, 0), OUTSIDE);
        due("price -1", x.share(-1, 1, 0), OUTSIDE);
        due("what 3", x.share(1, 1, 3), OUTSIDE);
        due("what -1", x.share(1, 1, -1), OUTSIDE);
        due("six done", x.count(6), 6);
        due("the area stays", x.houseTold(0), 1);
        x.change(0, 20);
        due("more area than 20", x.share(0, 0, 2), 0);
    }

    private static void sure() {
        HowBigTank x = of("a1s1l0w0;u1h0c3");
        due("no rule", x.sure(0, 2), UNKNOWN);
        x.rule(0, 0);
        due("no year", x.sure(0, 2), STATE);
        put(x, ALL_ONES);
        x.year();
        due("one", x.sure(0, 0), 1);
        due("of one", x.sure(0, 1), 1);
        put(x, NO_RAIN);
        x.year();
        due("one", x.sure(0, 0), 1);
        due("of 2 eleven times", x.sure(0, 1), 2048);
        due("part 2", x.sure(0, 2), OUTSIDE);
        due("part -1", x.sure(0, -1), OUTSIDE);
        due("rule -1", x.sure(-1, 2), UNKNOWN);
        x.change(1, 0);
        due("none", x.sure(0, 0), 0);
        due("of one", x.sure(0, 1), 1);
        HowBigTank y = of("a1s9l0w0p5q1;u1h0c3", NO_RAIN);
        y.rule(4, 9);
        y.rule(3, 0);
        due("a WELL is never dry", y.sure(0, 0), 1);
        y.change(1, 2);
        due("pumped is not dry", y.sure(0, 0), 1);
        due("the cost is not least so", y.sure(1, 0), 1);
        HowBigTank eight = of("a1s1l0w0;u1h0c1", ALL_ONES, NO_RAIN, NO_RAIN, NO_RAIN, NO_RAIN, NO_RAIN, NO_RAIN, NO_RAIN);
        eight.rule(2, 0);
        due("one", eight.sure(0, 0), 1);
        due("of 8 eleven times", eight.sure(0, 1), 1L << 33);
    }

    private static void mean() {
        HowBigTank x = of("a1s1l0w0;u1h0c3");
        due("no rule", x.mean(0, 2), UNKNOWN);
        x.rule(0, 0);
        due("no year", x.mean(0, 2), STATE);
        put(x, ALL_ONES);
        x.year();
        due("nothing", x.mean(0, 0), 0);
        due("of one", x.mean(0, 1), 1);
        put(x, NO_RAIN);
        x.year();
        due("33", x.mean(0, 0), 33);
        due("of 2", x.mean(0, 1), 2);
        due("part 2", x.mean(0, 2), OUTSIDE);
        due("part -1", x.mean(0, -1), OUTSIDE);
        due("rule 1", x.mean(1, 0), UNKNOWN);
        HowBigTank one = of("a2s9l1w2k1p2q3;u2h3c4;u3h0c9", WETTISH);
        one.rule(0, 0);
        one.rule(1, 6);
        one.rule(2, 0);
        one.rule(4, 4);
        one.rule(3, 0);
        due("one year is as its run", one.mean(0, 0), 404);
        for (int r = 1; r < 5; r++) due("rule " + r + ", too", one.mean(r, 0), one.run(r, 2));
        put(one, WETTISH);
        one.year();
        due("two alike are as one", one.mean(0, 0), 404);
        due("of one", one.mean(0, 1), 1);
        HowBigTank most = of("a20s200l0w0;u15h9c9;u15h9c9;u15h9c9", NO_RAIN);
        for (int kind = 0; kind < 5; kind++) most.rule(kind, 0);
        for (int r = 0; r < 5; r++) due("of greatest numbers, kind " + r, most.mean(r, 0), 9 * (9 * 45 + 3 * 72 - 200));
        due("all that is wanted", most.wise(5, 200, true, 1), 72);
        HowBigTank y = of("a1s1l0w0;u1h0c1", "100000000000", "010000000000", NO_RAIN);
        y.rule(0, 0);
        due("month 1 rains in one of three", y.mean(0, 0), 32);
        due("of 3", y.mean(0, 1), 3);
        HowBigTank z = of("a1s2l0w0p1q1;u1h0c1;u1h0c9", NO_RAIN);
        z.rule(3, 0);
        z.rule(2, 0);
        z.rule(4, 2);
        due("a FIRST", z.mean(1, 0), 110);
        due("a BEST: a tub kept for month 7", z.mean(0, 0), 11 + 11);
        due("a WELL: month 7 in need", z.mean(2, 0), 10 * 1 + 10 + 10);
    }

    private static void wise() {
        HowBigTank x = of("a1s2l0w0;u1h0c1;u1h0c9");
        due("no year", x.wise(12, 0, true, 0), STATE);
        put(x, NO_RAIN);
        x.year();
        due("the last month", x.wise(11, 2, false, 1), 2);
        due("one for the last month", x.wise(10, 2, false, 1), 1);
        due("of like ones the most", x.wise(9, 2, false, 1), 1);
        due("none there", x.wise(9, 0, false, 1), 0);
        due("no pump", x.wise(9, 0, false, 0), 0);
        due("month 12", x.wise(12, 0, true, 0), OUTSIDE);
        due("month -1", x.wise(-1, 0, true, 0), OUTSIDE);
        due("level 3", x.wise(0, 3, true, 0), OUTSIDE);
        due("level -1", x.wise(0, -1, true, 0), OUTSIDE);
        due("what 2", x.wise(0, 0, true, 2), OUTSIDE);
        due("what -1", x.wise(0, 0, true, -1), OUTSIDE);
        x.change(5, 1);
        x.change(6, 1);
        due("it pumps for 9", x.wise(11, 0, false, 0), 1);
        due("and gives it", x.wise(11, 0, false, 1), 1);
        due("of like ones the fewest pumped", x.wise(11, 1, false, 0), 0);
        due("then gives", x.wise(11, 1, false, 1), 1);
        due("not in month 7", x.wise(7, 0, false, 0), 0);
        due("ahead of month 7", x.wise(6, 1, false, 0), 1);
        due("and keeps one", x.wise(6, 1, false, 1), 1);
        due("no more than up to the size", x.wise(6, 2, false, 0), 0);
        HowBigTank y = of("a3s3l0w3;u1h0c1;u1h0c9", "000000000001");
        due("with rain to come that is not washed", y.wise(10, 2, true, 1), 2);
        due("with rain to come that is", y.wise(10, 2, false, 1), 1);
        due("without a house", new HowBigTank().wise(0, 0, true, 0), STATE);
        x.change(5, 0);
        x.image();
        due("one for the last month again", x.wise(10, 2, false, 1), 1);
        put(x, ALL_ONES);
        x.year();
        x.change(0, 20);
        x.change(5, 1);
        due("with a pump", x.wise(6, 1, false, 0), 1);
        x.restore();
        due("without", x.wise(6, 1, false, 0), 0);
        put(x, "a1s2l0w0;u1h0c1;u1h0c1");
        x.house();
        due("another house", x.wise(10, 2, false, 1), 2);
    }

    private static void hedge() {
        HowBigTank x = of("a1s3l0w0;u2h0c1;u2h0c9");
        due("no year", x.hedge(), STATE);
        due("refusals do not count", x.count(7), 0);
        put(x, NO_RAIN);
        x.year();
        // The level is 3, which no n up to 3 halves, and 0 behind it.
        due("nothing to halve", x.hedge(), 0);
        put(x, ALL_ONES);
        x.year();
        x.change(1, 0);
        due("none but 0", x.hedge(), 0);
        due("twice", x.count(7), 2);
        due("a third time", x.hedge(), STATE);
        due("still twice", x.count(7), 2);
        HowBigTank u = of("a1s6l0w0;u2h0c1;u2h0c9", NO_RAIN);
        // 6, full to 2; then 2, 0: 18; halved below 3: 1, 1: 10.
        due("the least that halves 2", u.hedge(), 3);
        HowBigTank v = of("a1s4l0w0k1;u3h0c1;u2h0c9", NO_RAIN);
        // Behind the leak 3: full 3, 0: 18; halved below 4: 1, 1: 11.
        due("n up to the size", v.hedge(), 4);
        due("the size is the most", u.change(1, 3), 6);
        due("3 is not below 3", u.hedge(), 0);
    }

    private static void read() {
        HowBigTank x = new HowBigTank();
        due("none was", x.read(0, 0), NONE);
        due("0 was", x.read(0, 200), 0);
        due("200 was", x.read(0, NONE), 200);
        due("none was again", x.read(0, NONE), NONE);
        due("month 11", x.read(11, 7), NONE);
        due("one", x.count(3), 1);
        due("month 12", x.read(12, 7), UNKNOWN);
        due("month -1", x.read(-1, 7), UNKNOWN);
        due("201", x.read(0, 201), OUTSIDE);
        due("-2", x.read(0, -2), OUTSIDE);
        due("UNKNOWN ahead of OUTSIDE", x.read(LOW, HIGH), UNKNOWN);
        due("still one", x.count(3), 1);
    }

    private static void isLeak(HowBigTank x, int rule, int... want) {
        for (int what = 0; what < 5; what++) due("leaks(" + rule + ", 0, " + what + ")", x.leaks(rule, 0, what), want[what]);
    }

    private static void leaks() {
        HowBigTank x = new HowBigTank();
        due("no rule", x.leaks(0, 0, 9), UNKNOWN);
        x.rule(0, 0);
        due("no year", x.leaks(0, 0, 9), UNKNOWN);
        put(x, NO_RAIN);
        x.year();
        due("no house", x.leaks(0, 0, 9), STATE);
        put(x, "a1s10l0w0k5p2q0;u1h0c1");
        x.house();
        x.rule(3, 0);
        x.rule(4, 200);
        isLeak(x, 0, 109, 0, 9, 0, 11);
        x.read(2, 5);
        isLeak(x, 0, 2, 1, 2, 1, 2);
        x.read(2, 7);
        isLeak(x, 0, 1 + 9 * 9, 0, 9, 0, 11);
        x.read(3, 5);
        isLeak(x, 0, 1, 1, 1, 3, 3);
        x.read(3, 8);
        isLeak(x, 0, 0, NONE, NONE, NONE, NONE);
        x.read(2, NONE);
        x.read(3, NONE);
        x.read(1, 8);
        // Two are pumped at most: 9 behind month 0 by 2 or by none, then 9 less 2, 2 more, 1 less.
        isLeak(x, 2, 2, 2, 2, 0, 1);
        due("what 5", x.leaks(0, 0, 5), OUTSIDE);
        due("what -1", x.leaks(0, 0, -1), OUTSIDE);
        due("a BEST", x.leaks(1, 0, 9), STATE);
        due("year 1", x.leaks(1, 1, 9), UNKNOWN);
        due("rule 3", x.leaks(3, 0, 9), UNKNOWN);
        due("the leak stays", x.houseTold(4), 5);
    }

    private static void image() {
        HowBigTank x = new HowBigTank();
        due("no house", x.image(), STATE);
        put(x, TWO_USES);
        x.house();
        due("no years", x.image(), 0);
        put(x, NO_RAIN);
        x.year();
        due("the year is gone", x.restore(), 0);
        due("gone", x.rain(0, 0), UNKNOWN);
        put(x, ALL_ONES);
        x.year();
        due("the latest", x.image(), 1);
        x.change(0, 7);
        due("it is", x.restore(), 1);
        due("and not the one ahead", x.rain(0, 0), 1);
        put(x, NO_RAIN);
        x.year();
        due("two", x.image(), 2);
        put(x, "a1s1l1w1;u1h1c1");
        x.house();
        due("of this house none", x.restore(), STATE);
    }

    private static void restore() {
        HowBigTank x = of("a1s2l3w4k5p5q7;u1h1c1", ALL_ONES);
        due("none kept", x.restore(), STATE);
        x.read(4, 44);
        x.rule(0, 0);
        x.image();
        for (int what = 0; what < 7; what++) x.change(what, 1);
        x.read(4, 5);
        x.read(5, 6);
        x.rule(1, 1);
        put(x, NO_RAIN);
        x.year();
        put(x, "abc");
        x.share(1, 1, 1);
        x.mean(0, 0);
        due("one year", x.restore(), 1);
        for (int what = 0; what < 7; what++) due("number", x.houseTold(what), new int[] {1, 2, 3, 4, 5, 5, 7}[what]);
        due("a reading", x.read(4, 9), 44);
        due("no reading", x.read(5, NONE), NONE);
        due("rules stay", x.count(2), 2);
        due("letters stay", x.blank(), 3);
        due("searches stay", x.count(6), 1);
        due("a mean of what is", x.mean(0, 1), 1);
        x.change(0, 20);
        due("again", x.restore(), 1);
        due("the area again", x.houseTold(0), 1);
        due("the reading again", x.read(4, 9), 44);
        put(x, "a1s2l3w4k5p5q7;u1h1c1");
        x.house();
        due("another house", x.restore(), STATE);
        due("its image", x.image(), 1);
        put(x, "nonsense");
        due("none", x.house(), STATE);
        due("still that house", x.restore(), 1);
    }

    private static void count() {
        HowBigTank x = of(TWO_USES, ALL_ONES, NO_RAIN, ALL_ONES);
        x.rule(0, 0);
        x.read(3, 0);
        x.read(4, 7);
        put(x, "hello");
        x.hedge();
        x.cheapest(0, 1, 1);
        x.share(1, 1, 1);
        x.share(100, 1, 1);
        int[] want = {2, 3, 1, 2, 5, 1, 2, 1};
        for (int what = 0; what < 8; what++) due("count(" + what + ")", x.count(what), want[what]);
        due("8", x.count(8), OUTSIDE);
        due("-1", x.count(-1), OUTSIDE);
        due("low", x.count(LOW), OUTSIDE);
    }

    private static long fold(List<Integer> numbers) {
        long h = 401;
        for (int n : numbers) h = 31 * h + n;
        return h;
    }

    private static void digest() {
        HowBigTank x = new HowBigTank();
        List<Integer> bare = new ArrayList<>();
        for (int i = 0; i < 20; i++) bare.add(i < 12 ? NONE : 0);
        due("a new object", x.digest(), fold(bare));
        put(x, WETTISH);
        x.year();
        x.rule(1, 6);
        x.rule(3, 0);
        List<Integer> some = new ArrayList<>();
        for (char c : WETTISH.toCharArray()) some.add(c - '0');
        some.addAll(List.of(1, 6, 3, 0));
        for (int m = 0; m < 12; m++) some.add(NONE);
        some.addAll(List.of(0, 1, 2, 0, 0, 0, 0, 0));
        due("without a house", x.digest(), fold(some));
        put(x, TWO_USES);
        x.house();
        x.read(1, 3);
        put(x, "ab");
        List<Integer> all = new ArrayList<>(List.of(2, 9, 1, 2, 0, 0, 0, 2, 2, 3, 4, 3, 0, 9));
        for (char c : WETTISH.toCharArray()) all.add(c - '0');
        all.addAll(List.of(1, 6, 11, 55, 375, 5, 0, 0, 0, 3, 0));
        for (int m = 0; m < 12; m++) all.add(m == 1 ? 3 : NONE);
        all.addAll(List.of((int) 'a', (int) 'b', 2, 1, 2, 1, 2, 1, 0, 0));
        due("with all", x.digest(), fold(all));
        due("and once more", x.digest(), fold(all));
        HowBigTank y = of("a1s2l3w4;u1h1c1");
        put(y, "1,2,3,4,5,6,7,8,9,10,11,0");
        y.tell();
        List<Integer> told = new ArrayList<>(List.of(1, 2, 3, 4, 0, 0, 0, 1, 1, 1, 1, 5, 0));
        for (int m = 0; m < 12; m++) told.add(NONE);
        told.addAll(List.of(1, 0, 1, 0, 0, 1, 0, 0));
        due("a TOLD, without a year", y.digest(), fold(told));
    }

    private static void check(int number) {
        promise = number;
        switch (number) {
            case 1 -> newObject();
            case 2 -> letters();
            case 3 -> blank();
            case 4 -> fault();
            case 5 -> house();
            case 6 -> year();
            case 7 -> tell();
            case 8 -> {
                rule();
                kinds();
            }
            case 9 -> as();
            case 10 -> houseTold();
            case 11 -> change();
            case 12 -> rain();
            case 13 -> run();
            case 14 -> month();
            case 15 -> never();
            case 16 -> let();
            case 17 -> cheapest();
            case 18 -> share();
            case 19 -> sure();
            case 20 -> mean();
            case 21 -> wise();
            case 22 -> hedge();
            case 23 -> read();
            case 24 -> leaks();
            case 25 -> image();
            case 26 -> restore();
            case 27 -> count();
            default -> digest();
        }
    }

    public static void main(String[] args) {
        for (int number = 1; number <= 28; number++) check(number);
        System.out.println(wrong == 0 ? "all promises hold" : wrong + " answers are not as due");
        if (wrong != 0) System.exit(1);
    }
}
