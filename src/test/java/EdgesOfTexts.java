/** Boundary cases of texts: houses, years, rules, and what is told of them; promises 1 to 12. */
public final class EdgesOfTexts extends Edge {
    private static final int A_HOUSE = 0, A_YEAR = 1, A_RULE = 2;
    private static final String USE = ";u1h0c1";

    /** A text that is none: where its first fault is, and that reading it is refused and leaves the page. */
    private static void isNone(int sort, String text, int place) {
        HowBigTank x = put(new HowBigTank(), text);
        due("letters of " + text, x.count(4), text.length());
        due("fault(" + sort + ") of " + text, x.fault(sort), place);
        refused(x, "reading " + text, () -> sort == A_HOUSE ? x.house() : sort == A_YEAR ? x.year() : x.tell(), STATE);
        due("the page of " + text, x.blank(), text.length());
    }

    private static void isHouse(String text, int what, int want) {
        HowBigTank x = put(new HowBigTank(), text);
        due("fault(0) of " + text, x.fault(0), text.length());
        due("uses of " + text, x.house(), text.length() - text.replace(";", "").length());
        due("houseTold(" + what + ") of " + text, x.houseTold(what), want);
    }

    private static void isYear(String text) {
        HowBigTank x = put(new HowBigTank(), text);
        due("fault(1) of " + text, x.fault(1), text.length());
        due("year of " + text, x.year(), 0);
        for (int m = 0; m < 12; m++) due("month " + m + " of " + text, x.rain(0, m), text.charAt(m) - '0');
    }

    private static void isRule(String text) {
        HowBigTank x = put(new HowBigTank(), text);
        due("fault(2) of " + text, x.fault(2), text.length());
        due("rule of " + text, x.tell(), 0);
        due("as a TOLD", x.as(0, TOLD), 0);
    }

    /** The least and the greatest number behind a letter are taken, one more and a 0 ahead are not. */
    private static void number(String ahead, String behind, int what, int least, int most) {
        isHouse(ahead + least + behind, what, least);
        isHouse(ahead + most + behind, what, most);
        String above = "" + (most + 1);
        isNone(A_HOUSE, ahead + above + behind, ahead.length() + (most == 5 ? 0 : above.length() - 1));
        isNone(A_HOUSE, ahead + most + "0" + behind, ahead.length() + ("" + most).length());
        isNone(A_HOUSE, ahead + behind, ahead.length());
        isNone(A_HOUSE, ahead, ahead.length());
        isNone(A_HOUSE, ahead + "-1" + behind, ahead.length());
        if (least == 1) isNone(A_HOUSE, ahead + "0" + behind, ahead.length());
    }

    private static void numbersOfAHouse() {
        holds(TERMS, "\"a\", AREA (1 to 20)", () -> {
            number("a", "s1l0w0" + USE, 0, 1, 20);
            isHouse("a9s1l0w0" + USE, 0, 9);
            isHouse("a10s1l0w0" + USE, 0, 10);
            isNone(A_HOUSE, "a30s1l0w0" + USE, 2);
            isNone(A_HOUSE, "A1s1l0w0" + USE, 0);
        });
        holds(TERMS, "\"s\", SIZE (0 to 200)", () -> {
            number("a1s", "l0w0" + USE, 1, 0, 200);
            isHouse("a1s9l0w0" + USE, 1, 9);
            isHouse("a1s99l0w0" + USE, 1, 99);
            isHouse("a1s100l0w0" + USE, 1, 100);
            isNone(A_HOUSE, "a1s210l0w0" + USE, 5);
            isNone(A_HOUSE, "a1s300l0w0" + USE, 5);
            isNone(A_HOUSE, "a1s999l0w0" + USE, 5);
        });
        holds(TERMS, "\"l\", LOSS (0 to 9)", () -> number("a1s1l", "w0" + USE, 2, 0, 9));
        holds(TERMS, "\"w\", WASH (0 to 9)", () -> number("a1s1l0w", USE, 3, 0, 9));
        holds(TERMS, "then perhaps \"k\", LEAK (0 to 9)", () -> {
            number("a1s1l0w0k", USE, 4, 0, 9);
            number("a1s1l0w0k", "p1q0" + USE, 4, 0, 9);
            isHouse("a1s1l0w0" + USE, 4, 0);
            isNone(A_HOUSE, "a1s1l0w0k1k1" + USE, 10);
            isNone(A_HOUSE, "a1s1l0k1w0" + USE, 6);
        });
        holds(TERMS, "then perhaps \"p\", PUMP (1 to 5)", () -> {
            number("a1s1l0w0p", "q0" + USE, 5, 1, 5);
            number("a1s1l0w0k9p", "q0" + USE, 5, 1, 5);
            isHouse("a1s1l0w0" + USE, 5, 0);
            isNone(A_HOUSE, "a1s1l0w0p1" + USE, 10);
            isNone(A_HOUSE, "a1s1l0w0p1q1p1q1" + USE, 12);
        });
        holds(TERMS, "\"q\", PRICE (0 to 9)", () -> {
            number("a1s1l0w0p1q", USE, 6, 0, 9);
            isNone(A_HOUSE, "a1s1l0w0q1" + USE, 8);
            isNone(A_HOUSE, "a1s1l0w0p1q1k1" + USE, 12);
        });
        holds(TERMS, "Without \"k\" LEAK, without \"p\" PUMP and PRICE are 0.", () -> {
            HowBigTank x = of("a1s1l0w0k7p5q9" + USE);
            put(x, "a1s1l0w0p2q3" + USE).house();
            due("LEAK", x.houseTold(4), 0);
            put(x, "a1s1l0w0k4" + USE).house();
            due("LEAK alone", x.houseTold(4), 4);
            due("PUMP", x.houseTold(5), 0);
            due("PRICE", x.houseTold(6), 0);
            put(x, "a1s1l0w0" + USE).house();
            due("LEAK again", x.houseTold(4), 0);
        });
    }

    private static void usesOfAHouse() {
        holds(TERMS, "then one to three USES", () -> {
            isNone(A_HOUSE, "a1s1l0w0", 8);
            isNone(A_HOUSE, "a1s1l0w0;", 9);
            for (int uses = 1; uses <= 3; uses++) isHouse("a1s1l0w0" + USE.repeat(uses), 7, uses);
            isNone(A_HOUSE, "a1s1l0w0" + USE.repeat(4), 8 + 21);
            isNone(A_HOUSE, "a1s1l0w0" + USE.repeat(3) + ";", 8 + 21);
            isNone(A_HOUSE, "a1s1l0w0" + USE + ";", 16);
            isNone(A_HOUSE, "a1s1l0w0" + USE + " ", 15);
            isNone(A_HOUSE, "a1s1l0w0,u1h0c1", 8);
        });
        holds(TERMS, "each \";u\", WANT (1 to 15)", () -> {
            number("a1s1l0w0;u", "h0c1", 10, 1, 15);
            number("a1s1l0w0;u1h0c1;u", "h0c1", 20, 1, 15);
            number("a1s1l0w0;u1h0c1;u1h0c1;u", "h0c1", 30, 1, 15);
            isNone(A_HOUSE, "a1s1l0w0;u20h0c1", 11);
        });
        holds(TERMS, "\"h\", HOT (0 to 9)", () -> {
            number("a1s1l0w0;u1h", "c1", 11, 0, 9);
            number("a1s1l0w0;u1h0c1;u1h", "c1", 21, 0, 9);
            number("a1s1l0w0;u1h0c1;u1h0c1;u1h", "c1", 31, 0, 9);
        });
        holds(TERMS, "\"c\", WORTH (1 to 9)", () -> {
            number("a1s1l0w0;u1h0c", "", 12, 1, 9);
            number("a1s1l0w0;u1h0c1;u1h0c", "", 22, 1, 9);
            number("a1s1l0w0;u1h0c1;u1h0c1;u1h0c", "", 32, 1, 9);
        });
        holds(TERMS, "Numbers have no 0 ahead.", () -> {
            String[] parts = {"a1", "s1", "l1", "w1", "k1", "p1", "q1", ";u1", "h1", "c1"};
            for (int spoilt = 0; spoilt < parts.length; spoilt++) {
                StringBuilder s = new StringBuilder();
                int place = 0;
                for (int i = 0; i < parts.length; i++) {
                    if (i == spoilt) {
                        char letter = parts[i].charAt(parts[i].length() - 2);
                        // Where 0 is no number itself, it is the fault, else what is behind it.
                        place = s.length() + parts[i].length() - ("apuc".indexOf(letter) >= 0 ? 1 : 0);
                    }
                    s.append(i == spoilt ? parts[i].replace("1", "01") : parts[i]);
                }
                isNone(A_HOUSE, s.toString(), place);
            }
            isNone(A_HOUSE, "a1s00l0w0" + USE, 4);
        });
    }

    private static void yearsAndRules() {
        holds(TERMS, "A YEAR (8 at most, numbered)", () -> {
            HowBigTank x = new HowBigTank();
            for (int y = 0; y < 8; y++) due("year", put(x, "12345678900" + y).year(), y);
            for (int y = 0; y < 8; y++) due("its own RAIN", x.rain(y, 11), y);
            put(x, NO_RAIN);
            refused(x, "the ninth", x::year, FULL);
            due("eight", x.count(1), 8);
            due("no ninth", x.rain(8, 0), UNKNOWN);
        });
        holds(TERMS, "is a text of twelve digits", () -> {
            isYear(NO_RAIN);
            isYear("999999999999");
            isYear("012345678901");
            isNone(A_YEAR, "", 0);
            isNone(A_YEAR, "12345678901", 11);
            isNone(A_YEAR, "1234567890123", 12);
            isNone(A_YEAR, "12345678901/", 11);
            isNone(A_YEAR, ":23456789012", 0);
            isNone(A_YEAR, "12345 789012", 5);
            isNone(A_YEAR, "12345678901,", 11);
        });
        holds(TERMS, "RULES (8 at most, numbered)", () -> {
            HowBigTank x = new HowBigTank();
            for (int r = 0; r < 8; r++) {
                due("rule", r % 2 == 0 ? x.rule(HEDGE, r) : put(x, "1,2,3,4,5,6,7,8,9,0,1,2").tell(), r);
            }
            refused(x, "the ninth", () -> x.rule(ALL, 0), FULL);
            put(x, "1,2,3,4,5,6,7,8,9,0,1,2");
            refused(x, "the ninth, TOLD", x::tell, FULL);
            due("eight", x.count(2), 8);
            due("the eighth", x.as(7, ALL), 7);
            due("no ninth", x.as(8, ALL), UNKNOWN);
        });
        holds(TERMS, "twelve numbers (0 to 99, without a 0 ahead) with \",\" between", () -> {
            isRule("0,0,0,0,0,0,0,0,0,0,0,0");
            isRule("99,99,99,99,99,99,99,99,99,99,99,99");
            isRule("9,10,1,0,99,90,9,10,1,0,99,90");
            isNone(A_RULE, "", 0);
            isNone(A_RULE, "0,0,0,0,0,0,0,0,0,0,0", 21);
            isNone(A_RULE, "0,0,0,0,0,0,0,0,0,0,0,", 22);
            isNone(A_RULE, "0,0,0,0,0,0,0,0,0,0,0,0,", 23);
            isNone(A_RULE, "0,0,0,0,0,0,0,0,0,0,0,0,0", 23);
            isNone(A_RULE, "100,0,0,0,0,0,0,0,0,0,0,0", 2);
            isNone(A_RULE, "0,0,0,0,0,0,0,0,0,0,0,100", 24);
            isNone(A_RULE, "01,0,0,0,0,0,0,0,0,0,0,0", 1);
            isNone(A_RULE, "0,0,0,0,0,0,0,0,0,0,0,00", 23);
            isNone(A_RULE, "0,,0,0,0,0,0,0,0,0,0,0", 2);
            isNone(A_RULE, ",0,0,0,0,0,0,0,0,0,0,0", 0);
            isNone(A_RULE, "0;0,0,0,0,0,0,0,0,0,0,0", 1);
            isNone(A_RULE, "-1,0,0,0,0,0,0,0,0,0,0,0", 0);
        });
    }

    private static void newObject() {
        holds(1, "No HOUSE, no YEARS, no RULES.", () -> {
            HowBigTank other = ruled(WELL, 3, "a1s1l0w0" + USE, NO_RAIN);
            other.read(0, 1);
            other.letters('a');
            HowBigTank x = new HowBigTank();
            for (int what = 0; what <= 7; what++) due("count(" + what + ")", x.count(what), 0);
            due("houseTold", x.houseTold(0), STATE);
            due("change", x.change(0, 1), STATE);
            due("rain", x.rain(0, 0), UNKNOWN);
            due("as", x.as(0, 0), UNKNOWN);
            due("run", x.run(0, 0), UNKNOWN);
            due("month", x.month(0, 0, 0, 0), UNKNOWN);
            due("leaks", x.leaks(0, 0, 0), UNKNOWN);
            due("cheapest", x.cheapest(0, 0, 0), UNKNOWN);
            due("sure, mean", x.sure(0, 0) + x.mean(0, 0), 2 * UNKNOWN);
            due("never, let, share, wise, hedge", x.never(0) + x.let(0) + x.share(0, 0, 0) + x.wise(0, 0, true, 0) + x.hedge(), 5 * STATE);
            due("house, year, tell, image, restore", x.house() + x.year() + x.tell() + x.image() + x.restore(), 5 * STATE);
            for (int m = 0; m < 12; m++) due("read", x.read(m, NONE), NONE);
            due("blank", x.blank(), 0);
        });
    }

    private static void letters() {
        holds(2, "Letters come behind THE PAGE, up to eight", () -> {
            HowBigTank x = new HowBigTank();
            due("none on an empty page", x.letters(0), 0);
            due("eight", x.letters(word("a1s2l3w4")), 8);
            due("none", x.letters(0), 8);
            due("one", x.letters(';'), 9);
            due("six", x.letters(word("u5h6c7")), 15);
            due("all in their order", x.house(), 1);
            for (int what : new int[] {0, 1, 2, 3, 10, 11, 12}) due("houseTold", x.houseTold(what), what < 4 ? what + 1 : what - 5);
        });
        holds(2, "the lowest byte first", () -> {
            HowBigTank x = new HowBigTank();
            x.letters(0x3736353433323130L);
            x.letters(0x31303938L);
            x.year();
            for (int m = 0; m < 12; m++) due("month " + m, x.rain(0, m), m % 10);
        });
        holds(2, "until a byte that is 0", () -> {
            for (int letters = 0; letters <= 8; letters++) {
                due(letters + " letters", new HowBigTank().letters(word("aaaaaaaa".substring(0, letters))), letters);
            }
        });
        holds(2, "how many THE PAGE has", () -> {
            HowBigTank x = new HowBigTank();
            for (int n = 1; n <= 60; n++) due("letter " + n, x.letters(n), n);
        });
        holds(2, "OUTSIDE: a byte above 126", () -> {
            HowBigTank x = new HowBigTank();
            due("1", x.letters(1), 1);
            due("126", x.letters(126), 2);
            due("126 eight times", x.letters(0x7e7e7e7e7e7e7e7eL), 10);
            for (int place = 0; place < 8; place++) {
                long shift = 8L * place;
                long ahead = 0x4141414141414141L >>> 1 >>> (63 - shift);
                refused(x, "127 at " + place, () -> x.letters(ahead | 127L << shift), OUTSIDE);
                refused(x, "128 at " + place, () -> x.letters(ahead | 128L << shift), OUTSIDE);
                refused(x, "255 at " + place, () -> x.letters(ahead | 255L << shift), OUTSIDE);
            }
            refused(x, "-1", () -> x.letters(-1L), OUTSIDE);
            refused(x, "the least long", () -> x.letters(Long.MIN_VALUE), OUTSIDE);
            refused(x, "the greatest long", () -> x.letters(Long.MAX_VALUE), OUTSIDE);
        });
        holds(2, "or one behind a 0 that is not 0", () -> {
            HowBigTank x = new HowBigTank();
            for (int gap = 0; gap < 7; gap++) {
                long all = 0x4141414141414141L & ~(255L << 8 * gap);
                refused(x, "a 0 at " + gap, () -> x.letters(all), OUTSIDE);
                long one = 1L << 8 * (gap + 1);
                refused(x, "1 behind " + (gap + 1) + " zeros", () -> x.letters(one), OUTSIDE);
            }
            due("nothing came", x.blank(), 0);
        });
        holds(2, "FULL: above 60", () -> {
            HowBigTank x = put(new HowBigTank(), "123456789".repeat(6));
            due("54", x.count(4), 54);
            refused(x, "61", () -> x.letters(word("1234567")), FULL);
            refused(x, "62", () -> x.letters(word("12345678")), FULL);
            refused(x, "OUTSIDE ahead of FULL", () -> x.letters(word("1234567") | 127L << 56), OUTSIDE);
            due("60", x.letters(word("123456")), 60);
            refused(x, "one more", () -> x.letters(1), FULL);
            due("none more", x.letters(0), 60);
            due("60 stay", x.blank(), 60);
            due("eight again", x.letters(word("12345678")), 8);
        });
    }

    private static void blankAndFault() {
        holds(3, "THE PAGE is empty: how many letters it had.", () -> {
            HowBigTank x = new HowBigTank();
            due("empty", x.blank(), 0);
            put(x, "abc");
            due("three", x.blank(), 3);
            due("count", x.count(4), 0);
            due("empty again", x.blank(), 0);
            for (int sort = 0; sort <= 2; sort++) due("no fault", x.fault(sort), 0);
            put(x, "1".repeat(60));
            due("sixty", x.blank(), 60);
            due("what comes then is all", put(x, NO_RAIN).year(), 0);
            put(x, "a19s1".repeat(12)).blank();
            due("a number ends where the page does", put(x, "a1").fault(0), 2);
            x.blank();
            put(x, ALL_ONES.repeat(5)).blank();
            due("a year does, too", put(x, ALL_ONES.substring(1)).fault(1), 11);
            refused(x, "eleven", x::year, STATE);
        });
        holds(4, "The place (from 0) of the first letter of THE PAGE", () -> {
            HowBigTank x = put(new HowBigTank(), "~");
            for (int sort = 0; sort <= 2; sort++) due("0", x.fault(sort), 0);
            x = put(new HowBigTank(), "a1s1l0w0;u1h0c1;u1h0c1;u1h0c1" + "1".repeat(31));
            due("sixty letters", x.count(4), 60);
            due("a house", x.fault(0), 29);
            due("a year", put(new HowBigTank(), "1".repeat(60)).fault(1), 12);
            due("a rule", put(new HowBigTank(), "1,".repeat(30)).fault(2), 23);
        });
        holds(4, "behind those ahead of it", () -> {
            due("2 behind 1", put(new HowBigTank(), "a12s").fault(0), 4);
            due("2 behind 2", put(new HowBigTank(), "a22s").fault(0), 2);
            due("6 behind 1", put(new HowBigTank(), "a1s1l0w0;u16").fault(0), 11);
            due("a second fault behind", put(new HowBigTank(), "a1x1y").fault(0), 2);
        });
        holds(4, "how many letters it has, if there is none", () -> {
            String house = "a20s200l9w9k9p5q9;u15h9c9;u15h9c9;u15h9c9", rule = "10,20,30,40,50,60,70,80,90,99,0,12";
            for (int i = 0; i <= house.length(); i++) due(i + " of a house", put(new HowBigTank(), house.substring(0, i)).fault(0), i);
            for (int i = 0; i <= 12; i++) due(i + " of a year", put(new HowBigTank(), NO_RAIN.substring(0, i)).fault(1), i);
            for (int i = 0; i <= rule.length(); i++) due(i + " of a rule", put(new HowBigTank(), rule.substring(0, i)).fault(2), i);
        });
        holds(4, "OUTSIDE", () -> {
            HowBigTank x = put(new HowBigTank(), "abc");
            for (int sort : new int[] {-1, 3, LOW, HIGH}) refused(x, "fault(" + sort + ")", () -> x.fault(sort), OUTSIDE);
        });
    }

    private static void reading() {
        holds(5, "another one is gone; YEARS, RULES, READINGS stay", () -> {
            HowBigTank x = ruled(HEDGE, 7, "a1s2l3w4k5p1q6;u1h2c3;u4h5c6;u7h8c9", "123456789012");
            x.read(0, 0);
            x.read(11, 200);
            due("another", put(x, "a2s3l4w5;u9h9c9").house(), 1);
            int[] told = {2, 3, 4, 5, 0, 0, 0, 1};
            for (int what = 0; what < 8; what++) due("houseTold(" + what + ")", x.houseTold(what), told[what]);
            due("the second USE is gone", x.houseTold(20), NONE);
            due("the third USE is gone", x.houseTold(32), NONE);
            due("the YEAR", x.rain(0, 11), 2);
            due("the RULE", x.as(0, HEDGE), 0);
            due("the READINGS", x.read(0, NONE) + 1000 * x.read(11, NONE), 200000);
            x = ruled(FIRST, 0, "a1s1l0w0;u1h0c1;u1h0c2;u1h0c3", NO_RAIN);
            put(x, "a1s0l0w0;u2h0c5").house();
            due("the order by WORTH is gone", x.run(0, 10), 24);
            put(x, "a1s2l0w0;u2h0c5;u2h0c6").house();
            due("that of two", x.run(0, 10) + 100 * x.run(0, 11), 2224);
        });
        holds(5, "how many USES; THE PAGE is empty then", () -> {
            HowBigTank x = put(new HowBigTank(), "a1s1l0w0" + USE.repeat(3));
            due("three", x.house(), 3);
            due("the page", x.count(4), 0);
            due("no house on it", x.house(), STATE);
        });
        holds(5, "STATE: it is none.", () -> {
            HowBigTank x = of("a7s1l0w0" + USE);
            for (String s : new String[] {"", "a", "a1s1l0w0", "a1s1l0w0" + USE + "x", NO_RAIN}) {
                x.blank();
                put(x, s);
                refused(x, "house() of " + s, x::house, STATE);
            }
            due("the house ahead stays", x.houseTold(0), 7);
            due("read once", x.count(5), 1);
        });
        holds(6, "THE PAGE is read as a YEAR: its number; THE PAGE is empty then.", () -> {
            HowBigTank x = put(new HowBigTank(), NO_RAIN);
            due("the first", x.year(), 0);
            due("the page", x.count(4), 0);
            due("no year on it", x.year(), STATE);
        });
        holds(6, "STATE: it is none; FULL.", () -> {
            HowBigTank x = addYears(new HowBigTank(), NO_RAIN, NO_RAIN, NO_RAIN, NO_RAIN, NO_RAIN, NO_RAIN, NO_RAIN);
            put(x, ALL_ONES.substring(1));
            refused(x, "none", x::year, STATE);
            due("the eighth", put(x, "7").year(), 7);
            refused(x, "none, and full", x::year, STATE);
            put(x, ALL_ONES);
            refused(x, "full", x::year, FULL);
            due("the page stays", x.blank(), 12);
        });
        holds(7, "THE PAGE is read as a TOLD rule: its number; THE PAGE is empty then.", () -> {
            HowBigTank x = put(new HowBigTank(), "1,2,3,4,5,6,7,8,9,0,1,99");
            due("the first", x.tell(), 0);
            due("the page", x.count(4), 0);
            due("no rule on it", x.tell(), STATE);
        });
        holds(7, "STATE: it is none; FULL.", () -> {
            HowBigTank x = new HowBigTank();
            for (int r = 0; r < 7; r++) x.rule(ALL, 0);
            put(x, "1,2,3,4,5,6,7,8,9,0,1,");
            refused(x, "none", x::tell, STATE);
            due("the eighth", put(x, "2").tell(), 7);
            refused(x, "none, and full", x::tell, STATE);
            put(x, "1,2,3,4,5,6,7,8,9,0,1,2");
            refused(x, "full", x::tell, FULL);
            due("the page stays", x.blank(), 23);
        });
    }

    /** n from least to most is taken of a kind, and none else. */
    private static void takes(int kind, int most) {
        HowBigTank x = new HowBigTank();
        due("n 0", x.rule(kind, 0), 0);
        due("n " + most, x.rule(kind, most), 1);
        for (int n : new int[] {-1, most + 1, 201, LOW, HIGH}) refused(x, "n " + n, () -> x.rule(kind, n), OUTSIDE);
        due("of that kind", x.as(1, kind), 1);
    }

    private static void rules() {
        holds(8, "A RULE that is not TOLD: its number.", () -> {
            HowBigTank x = new HowBigTank();
            for (int kind = 0; kind <= 4; kind++) due("kind " + kind, x.rule(kind, 0), kind);
            for (int kind = 0; kind <= 4; kind++) due("is a " + kind, x.as(kind, kind), kind);
            refused(x, "a TOLD", () -> x.rule(TOLD, 0), OUTSIDE);
        });
        holds(8, "OUTSIDE: kind (0 to 4), n; FULL.", () -> {
            HowBigTank x = new HowBigTank();
            for (int kind : new int[] {-1, 5, 6, LOW, HIGH}) refused(x, "kind " + kind, () -> x.rule(kind, 0), OUTSIDE);
            for (int r = 0; r < 8; r++) due("rule " + r, x.rule(r % 5, 0), r);
            refused(x, "a kind, and full", () -> x.rule(-1, 0), OUTSIDE);
            refused(x, "an n, and full", () -> x.rule(HEDGE, 201), OUTSIDE);
            refused(x, "full", () -> x.rule(HEDGE, 200), FULL);
        });
        holds(TERMS, "An ALL (n 0)", () -> takes(ALL, 0));
        holds(TERMS, "A HEDGE (n 0 to 200)", () -> takes(HEDGE, 200));
        holds(TERMS, "A FIRST (n 0)", () -> takes(FIRST, 0));
        holds(TERMS, "A BEST (n 0)", () -> takes(BEST, 0));
        holds(TERMS, "A WELL (n 0 to 200)", () -> takes(WELL, 200));
    }

    /** One rule of each kind; the number of a rule is not that of its kind, but of a FIRST. */
    private static HowBigTank oneOfEachKind() {
        HowBigTank x = put(new HowBigTank(), "1,2,3,4,5,6,7,8,9,0,1,2");
        x.tell();
        for (int kind = 4; kind >= 0; kind--) x.rule(kind, 0);
        return x;
    }

    private static void casts() {
        holds(TERMS, "All are ALL; BEST, WELL, TOLD are FIRST, too.", () -> {
            HowBigTank x = oneOfEachKind();
            for (int r = 0; r < 6; r++) due("as an ALL", x.as(r, ALL), r);
            for (int r : new int[] {0, 1, 2, 3}) due("as a FIRST", x.as(r, FIRST), r);
            for (int r : new int[] {4, 5}) due("as a FIRST", x.as(r, FIRST), NONE);
        });
        holds(9, "its own number, not that of the KIND; NONE: it is none such (the cast fails)", () -> {
            HowBigTank x = oneOfEachKind();
            for (int r = 0; r < 6; r++) {
                for (int kind : new int[] {HEDGE, BEST, WELL, TOLD}) {
                    due(r + " as " + kind, x.as(r, kind), kind == 5 - r ? r : NONE);
                }
            }
        });
        holds(9, "UNKNOWN; OUTSIDE", () -> {
            HowBigTank x = oneOfEachKind();
            for (int r : new int[] {-1, 6, 7, 8, LOW, HIGH}) {
                refused(x, "rule " + r, () -> x.as(r, 0), UNKNOWN);
                refused(x, "rule " + r + ", and kind", () -> x.as(r, 6), UNKNOWN);
            }
            for (int kind : new int[] {-1, 6, LOW, HIGH}) refused(x, "kind " + kind, () -> x.as(0, kind), OUTSIDE);
        });
    }

    private static void told() {
        holds(10, "(NONE: no such USE)", () -> {
            for (int uses = 1; uses <= 3; uses++) {
                HowBigTank x = of("a1s1l0w0" + ";u9h9c9".repeat(uses));
                for (int use = 0; use < 3; use++) {
                    for (int part = 0; part < 3; part++) due("use " + use, x.houseTold(10 * use + 10 + part), use < uses ? 9 : NONE);
                }
            }
        });
        holds(10, "STATE: there is none; OUTSIDE: what (10 to 32 else, with a last figure 0 to 2).", () -> {
            int[] outside = {-1, -10, -90, 8, 9, 13, 19, 23, 29, 33, 40, 42, 100, LOW, HIGH};
            HowBigTank none = new HowBigTank();
            for (int what : new int[] {0, 7, 10, 32}) refused(none, "houseTold(" + what + ")", () -> none.houseTold(what), STATE);
            for (int what : outside) refused(none, "without a HOUSE " + what, () -> none.houseTold(what), STATE);
            HowBigTank x = of("a1s2l3w4k5p1q6;u1h2c3;u4h5c6;u7h8c9");
            for (int what : outside) refused(x, "houseTold(" + what + ")", () -> x.houseTold(what), OUTSIDE);
            int[] numbers = {1, 2, 3, 4, 5, 1, 6, 3};
            for (int what = 0; what < 8; what++) due("houseTold(" + what + ")", x.houseTold(what), numbers[what]);
            for (int use = 0; use < 9; use++) due("use", x.houseTold(10 + 10 * (use / 3) + use % 3), use + 1);
        });
        holds(11, "What houseTold() tells for 0 to 6 becomes v: what it was.", () -> {
            HowBigTank x = of("a1s2l3w4k5p1q6;u1h2c3");
            int[] was = {1, 2, 3, 4, 5, 1, 6};
            for (int what = 0; what < 7; what++) {
                due("what it was", x.change(what, was[what] + 1), was[what]);
                due("what it is", x.houseTold(what), was[what] + 1);
                due("the same once more", x.change(what, was[what] + 1), was[what] + 1);
            }
        });
        holds(11, "STATE: there is no HOUSE; OUTSIDE: what, v (as in a text; PUMP 0 to 5).", () -> {
            HowBigTank none = new HowBigTank();
            refused(none, "no HOUSE", () -> none.change(0, 1), STATE);
            refused(none, "no HOUSE, and what", () -> none.change(7, 99), STATE);
            HowBigTank x = of("a1s1l1w1k1p1q1;u1h1c1");
            int[] least = {1, 0, 0, 0, 0, 0, 0}, most = {20, 200, 9, 9, 9, 5, 9};
            for (int what = 0; what < 7; what++) {
                int number = what;
                for (int v : new int[] {least[what] - 1, most[what] + 1, LOW, HIGH}) {
                    refused(x, "change(" + what + ", " + v + ")", () -> x.change(number, v), OUTSIDE);
                }
                due("the least", x.change(what, least[what]), 1);
                due("the most", x.change(what, most[what]), least[what]);
                due("it is", x.houseTold(what), most[what]);
            }
            for (int what : new int[] {-1, 7, 8, 10, 12, LOW, HIGH}) refused(x, "change(" + what + ", 1)", () -> x.change(what, 1), OUTSIDE);
        });
        holds(12, "RAIN of a MONTH. UNKNOWN: year, month.", () -> {
            HowBigTank none = new HowBigTank();
            refused(none, "no YEAR", () -> none.rain(0, 0), UNKNOWN);
            HowBigTank x = addYears(new HowBigTank(), "012345678909", "900000000001");
            due("the first", x.rain(0, 0), 0);
            due("the last", x.rain(0, 11), 9);
            due("of the second, the first", x.rain(1, 0), 9);
            due("of the second, the last", x.rain(1, 11), 1);
            for (int y : new int[] {-1, 2, 8, LOW, HIGH}) refused(x, "year " + y, () -> x.rain(y, 0), UNKNOWN);
            for (int m : new int[] {-1, 12, LOW, HIGH}) refused(x, "month " + m, () -> x.rain(1, m), UNKNOWN);
        });
    }

    public static void main(String[] args) {
        numbersOfAHouse();
        usesOfAHouse();
        yearsAndRules();
        newObject();
        letters();
        blankAndFault();
        reading();
        rules();
        casts();
        told();
        end();
    }
}
