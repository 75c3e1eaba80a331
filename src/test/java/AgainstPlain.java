/** Runs of calls, chosen by a fixed sequence of numbers, on the program and on Plain: each answer must be alike. */
public final class AgainstPlain {
    private static final int RUNS = 160, CALLS = 512;
    private static long seed;
    private static int wrong = 0;
    private static HowBigTank x;
    private static Plain p;
    private static int run;
    private static int mostSize;
    private static final StringBuilder TOLD = new StringBuilder();

    private static int pick(int bound) {
        seed = seed * 6364136223846793005L + 1442695040888963407L;
        return (int) ((seed >>> 33) % bound);
    }

    private static boolean chance(int percent) { return pick(100) < percent; }

    /** A number that mostly is from 0 to most, and else anything. */
    private static int loose(int most) {
        if (chance(90)) return pick(most + 1);
        int[] odd = {-1, -2, most + 1, most + 2, 13, 200, 201, 100, Integer.MAX_VALUE, Integer.MIN_VALUE};
        return odd[pick(odd.length)];
    }

    private static void same(String call, long got, long want) {
        TOLD.append(' ').append(call);
        if (got != want) {
            wrong++;
            if (wrong < 20) {
                System.out.println("run " + run + ": " + call + " answered " + got + ", Plain says " + want);
                if (wrong < 3) System.out.println("  behind" + TOLD);
            }
        }
    }

    private static long word(String s, int from) {
        long w = 0;
        for (int i = 0; i < 8 && from + i < s.length(); i++) w |= (long) s.charAt(from + i) << 8 * i;
        return w;
    }

    private static void put(String s) {
        for (int i = 0; i < s.length(); i += 8) {
            long w = word(s, i);
            same("letters(" + w + ")", x.letters(w), p.letters(w));
        }
    }

    private static String houseText() {
        String s = "a" + (1 + pick(chance(70) ? 6 : 20)) + "s" + pick(mostSize + 1) + "l" + pick(10) + "w" + pick(10);
        if (chance(50)) s += "k" + pick(10);
        if (chance(50)) s += "p" + (1 + pick(5)) + "q" + pick(10);
        int uses = 1 + pick(3);
        for (int i = 0; i < uses; i++) s += ";u" + (1 + pick(chance(60) ? 5 : 15)) + "h" + pick(10) + "c" + (1 + pick(9));
        return s;
    }

    private static String yearText() {
        StringBuilder s = new StringBuilder();
        int most = 1 + pick(10);
        for (int m = 0; m < 12; m++) s.append(chance(30) ? 0 : pick(most));
        return s.toString();
    }

    private static String ruleText() {
        StringBuilder s = new StringBuilder();
        for (int m = 0; m < 12; m++) s.append(m > 0 ? "," : "").append(pick(chance(80) ? 20 : 100));
        return s.toString();
    }

    /** A text with one letter other, more or less. */
    private static String spoilt(String s) {
        String odd = "0123456789aslwkpq;uhc, ";
        int at = pick(s.length() + 1);
        String letter = String.valueOf(odd.charAt(pick(odd.length())));
        int end = Math.min(s.length(), at + (chance(60) ? 1 : 0));
        return s.substring(0, at) + (chance(70) ? letter : "") + s.substring(end);
    }

    private static void tellText() {
        int sort = pick(3);
        String s = sort == 0 ? houseText() : sort == 1 ? yearText() : ruleText();
        if (chance(40)) s = spoilt(s);
        if (chance(80)) blank();
        put(s);
        for (int f = 0; f < 3; f++) same("fault(" + f + ")", x.fault(f), p.fault(f));
        if (sort == 0) house(); else if (sort == 1) year(); else tell();
    }

    private static void blank() { same("blank()", x.blank(), p.blank()); }
    private static void house() { same("house()", x.house(), p.house()); }
    private static void year() { same("year()", x.year(), p.year()); }
    private static void tell() { same("tell()", x.tell(), p.tell()); }

    private static void addRule() {
        int kind = loose(4);
        int n = kind == 1 || kind == 4 ? loose(chance(70) ? mostSize : 200) : loose(0);
        same("rule(" + kind + ", " + n + ")", x.rule(kind, n), p.rule(kind, n));
    }

    private static int oldRule() { return loose(Math.max(0, p.count(2) - 1)); }
    private static int oldYear() { return loose(Math.max(0, p.count(1) - 1)); }

    private static void anyText(int which) {
        if (which == 0) {
            int r = oldRule(), k = loose(5);
            same("as(" + r + ", " + k + ")", x.as(r, k), p.as(r, k));
        } else if (which == 1) {
            int w = loose(32);
            same("houseTold(" + w + ")", x.houseTold(w), p.houseTold(w));
        } else if (which == 2) {
            int w = loose(6), v = w == 1 ? loose(mostSize) : loose(9);
            same("change(" + w + ", " + v + ")", x.change(w, v), p.change(w, v));
        } else if (which == 3) {
            int y = oldYear(), m = loose(11);
            same("rain(" + y + ", " + m + ")", x.rain(y, m), p.rain(y, m));
        } else if (which == 4) {
            long w = chance(50) ? pick(127) : ((long) pick(1 << 30) << 34) ^ pick(1 << 30);
            same("letters(" + w + ")", x.letters(w), p.letters(w));
        } else {
            blank();
        }
    }

    private static void anyRun(int which) {
        int r = oldRule();
        if (which == 0) {
            int w = loose(12);
            same("run(" + r + ", " + w + ")", x.run(r, w), p.run(r, w));
        } else if (which == 1) {
            int y = oldYear(), m = loose(11), w = loose(6);
            same("month(" + r + ", " + y + ", " + m + ", " + w + ")", x.month(r, y, m, w), p.month(r, y, m, w));
        } else if (which == 2) {
            int part = loose(1);
            same("sure(" + r + ", " + part + ")", x.sure(r, part), p.sure(r, part));
        } else if (which == 3) {
            int part = loose(1);
            same("mean(" + r + ", " + part + ")", x.mean(r, part), p.mean(r, part));
        } else {
            int m = loose(11), l = loose(mostSize), w = loose(1);
            boolean rained = chance(50);
            same("wise(" + m + ", " + l + ", " + rained + ", " + w + ")", x.wise(m, l, rained, w), p.wise(m, l, rained, w));
        }
    }

    private static void anySize(int which) {
        if (which == 0) {
            int w = loose(2);
            same("never(" + w + ")", x.never(w), p.never(w));
        } else if (which == 1) {
            int k = loose(chance(80) ? 20 : 96);
            same("let(" + k + ")", x.let(k), p.let(k));
        } else if (which == 2) {
            int r = oldRule(), price = loose(chance(80) ? 9 : 99), w = loose(1);
            same("cheapest(" + r + ", " + price + ", " + w + ")", x.cheapest(r, price, w), p.cheapest(r, price, w));
        } else if (which == 3) {
            int price = loose(9), roof = loose(99), w = loose(2);
            same("share(" + price + ", " + roof + ", " + w + ")", x.share(price, roof, w), p.share(price, roof, w));
        } else if (chance(20)) {
            same("hedge()", x.hedge(), p.hedge());
        }
    }

    /** A reading that mostly is the level that a run had there, so that some leak agrees. */
    private static void readOne() {
        int m = loose(11), l = chance(30) ? NONE_OR(loose(mostSize)) : p.month(oldRule(), 0, Math.max(0, Math.min(11, m)), 5);
        same("read(" + m + ", " + l + ")", x.read(m, l), p.read(m, l));
    }

    private static int NONE_OR(int level) { return chance(50) ? -1 : level; }

    private static void anyTold(int which) {
        if (which == 0) {
            same("image()", x.image(), p.image());
        } else if (which == 1) {
            same("restore()", x.restore(), p.restore());
        } else if (which == 2) {
            int w = loose(7);
            same("count(" + w + ")", x.count(w), p.count(w));
        } else if (which == 3) {
            same("digest()", x.digest(), p.digest());
        } else if (which < 6) {
            readOne();
        } else {
            int r = oldRule(), y = oldYear(), w = loose(4);
            same("leaks(" + r + ", " + y + ", " + w + ")", x.leaks(r, y, w), p.leaks(r, y, w));
        }
    }

    private static void anyCall() {
        int turn = pick(100);
        if (turn < 8) tellText();
        else if (turn < 11) addRule();
        else if (turn < 30) anyText(pick(6));
        else if (turn < 62) anyRun(pick(5));
        else if (turn < 72) anySize(pick(5));
        else anyTold(pick(8));
    }

    public static void main(String[] args) {
        for (run = 0; run < RUNS; run++) {
            seed = 77 + run;
            mostSize = run % 16 == 15 ? 200 : 4 + pick(50);
            x = new HowBigTank();
            p = new Plain();
            TOLD.setLength(0);
            if (run % 4 > 0) {
                put(houseText());
                house();
                for (int y = pick(4); y >= 0; y--) {
                    put(yearText());
                    year();
                }
                for (int k = 0; k < 5; k++) addRule();
                put(ruleText());
                tell();
            }
            for (int c = 0; c < CALLS; c++) anyCall();
            same("digest()", x.digest(), p.digest());
        }
        System.out.println(wrong == 0 ? RUNS + " runs are as Plain has them" : wrong + " answers are not as Plain has them");
        if (wrong != 0) System.exit(1);
    }
}
