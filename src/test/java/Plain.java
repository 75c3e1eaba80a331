import java.math.BigInteger;
import java.util.ArrayList;
import java.util.HashMap;
import java.util.List;
import java.util.Map;
import java.util.function.IntPredicate;
import java.util.regex.Matcher;
import java.util.regex.Pattern;

/**
 * The document written a second time, as plainly as can be and as slow as that is: texts by patterns, every
 * size tried, a year drawn by its definition, with numbers of any length. It shares nothing with the program.
 */
final class Plain {
    static final int NONE = -1, UNKNOWN = -101, OUTSIDE = -102, STATE = -103, FULL = -104;
    private static final String D = "([0-9])";
    private static final String USE = ";u(1[0-5]|[1-9])h" + D + "c([1-9])";
    private static final Pattern[] TEXTS = {
        Pattern.compile("a(1[0-9]|20|[1-9])s(1[0-9][0-9]|200|[1-9][0-9]|[0-9])l" + D + "w" + D
            + "(?:k" + D + ")?(?:p([1-5])q" + D + ")?" + USE + "(?:" + USE + ")?(?:" + USE + ")?"),
        Pattern.compile("[0-9]{12}"),
        Pattern.compile("([1-9][0-9]|[0-9])(,([1-9][0-9]|[0-9])){11}")};

    record Use(int want, int hot, int worth) { }
    record Rule(int kind, int n, int[] most) { }
    record Choice(BigInteger cost, int pumps, int gives) { }
    record Kept(int[] house, List<String> years, int[] readings, int of) { }

    /** What happens in one month. */
    static final class Month {
        int comes, over, leaked, pumped, given, level, cost;
        int[] lacks = new int[3];
        int lacking() { return lacks[0] + lacks[1] + lacks[2]; }
    }

    private String page = "";
    private int[] house = new int[7];
    private List<Use> uses = new ArrayList<>();
    private List<String> years = new ArrayList<>();
    private final List<Rule> rules = new ArrayList<>();
    private int[] readings = noReadings();
    private Kept kept;
    private int housesRead, searches, hedges;
    private Map<Integer, Choice> wisdom = new HashMap<>();

    private static int[] noReadings() {
        int[] r = new int[12];
        java.util.Arrays.fill(r, NONE);
        return r;
    }

    // ---- texts

    int letters(long w) {
        StringBuilder more = new StringBuilder();
        boolean ended = false;
        for (int i = 0; i < 8; i++) {
            int b = (int) ((w >> 8 * i) & 0xff);
            if (b > 126 || ended && b != 0) return OUTSIDE;
            if (b == 0) ended = true; else more.append((char) b);
        }
        if ((page + more).length() > 60) return FULL;
        page += more;
        return page.length();
    }

    int blank() {
        int n = page.length();
        page = "";
        return n;
    }

    int fault(int sort) {
        if (sort < 0 || sort > 2) return OUTSIDE;
        int good = 0;
        while (good < page.length() && mayGoOn(sort, page.substring(0, good + 1))) good++;
        return good;
    }

    private static boolean mayGoOn(int sort, String text) {
        Matcher m = TEXTS[sort].matcher(text);
        return m.matches() || m.hitEnd();
    }

    private Matcher readAs(int sort) {
        Matcher m = TEXTS[sort].matcher(page);
        return m.matches() ? m : null;
    }

    int house() {
        Matcher m = readAs(0);
        if (m == null) return STATE;
        house = new int[7];
        for (int i = 0; i < 7; i++) house[i] = m.group(i + 1) == null ? 0 : Integer.parseInt(m.group(i + 1));
        uses = new ArrayList<>();
        for (int u = 8; u <= 14; u += 3) {
            if (m.group(u) == null) continue;
            uses.add(new Use(Integer.parseInt(m.group(u)), Integer.parseInt(m.group(u + 1)), Integer.parseInt(m.group(u + 2))));
        }
        page = "";
        housesRead++;
        wisdom.clear();
        return uses.size();
    }

    int year() {
        if (readAs(1) == null) return STATE;
        if (years.size() == 8) return FULL;
        years.add(page);
        page = "";
        wisdom.clear();
        return years.size() - 1;
    }

    int tell() {
        if (readAs(2) == null) return STATE;
        if (rules.size() == 8) return FULL;
        int[] most = new int[12];
        String[] parts = page.split(",");
        for (int i = 0; i < 12; i++) most[i] = Integer.parseInt(parts[i]);
        rules.add(new Rule(5, 0, most));
        page = "";
        return rules.size() - 1;
    }

    int rule(int kind, int n) {
        if (kind < 0 || kind > 4 || n < 0 || n > 200 || n > 0 && kind != 1 && kind != 4) return OUTSIDE;
        if (rules.size() == 8) return FULL;
        rules.add(new Rule(kind, n, null));
        return rules.size() - 1;
    }

    int as(int rule, int kind) {
        if (noRule(rule)) return UNKNOWN;
        if (kind < 0 || kind > 5) return OUTSIDE;
        int own = rules.get(rule).kind;
        boolean is = kind == 0 || kind == own || kind == 2 && List.of(3, 4, 5).contains(own);
        return is ? rule : NONE;
    }

    int houseTold(int what) {
        if (housesRead == 0) return STATE;
        if (what >= 0 && what <= 6) return house[what];
        if (what == 7) return uses.size();
        if (!List.of(10, 11, 12, 20, 21, 22, 30, 31, 32).contains(what)) return OUTSIDE;
        if (what / 10 > uses.size()) return NONE;
        Use u = uses.get(what / 10 - 1);
        return new int[] {u.want, u.hot, u.worth}[what % 10];
    }

    int change(int what, int v) {
        if (housesRead == 0) return STATE;
        int[] most = {20, 200, 9, 9, 9, 5, 9};
        if (what < 0 || what > 6 || v < (what == 0 ? 1 : 0) || v > most[what]) return OUTSIDE;
        int was = house[what];
        house[what] = v;
        wisdom.clear();
        return was;
    }

    int rain(int year, int month) {
        if (noYear(year) || noMonth(month)) return UNKNOWN;
        return rainOf(year, month);
    }

    private int rainOf(int year, int month) { return years.get(year).charAt(month) - '0'; }
    private boolean noRule(int r) { return r < 0 || r >= rules.size(); }
    private boolean noYear(int y) { return y < 0 || y >= years.size(); }
    private boolean noMonth(int m) { return m < 0 || m > 11; }
    private boolean bare() { return housesRead == 0 || years.isEmpty(); }

    // ---- a month

    private static int[] with(int[] numbers, int place, int v) {
        int[] other = numbers.clone();
        other[place] = v;
        return other;
    }

    private int wants(int use, int month) {
        return uses.get(use).want + (month >= 5 && month <= 7 ? uses.get(use).hot : 0);
    }

    private static void fall(int[] h, Month r, int level, int rain, boolean rainedAhead) {
        r.comes = rain == 0 ? 0 : Math.max(0, h[0] * rain - h[2] - (rainedAhead ? 0 : h[3]));
        r.level = level + r.comes;
        r.over = Math.max(0, r.level - h[1]);
        r.level -= r.over;
        r.leaked = Math.min(h[4], r.level);
        r.level -= r.leaked;
    }

    private Month oneMonth(int[] h, Rule rule, int month, int level, int rain, boolean rainedAhead) {
        Month r = new Month();
        fall(h, r, level, rain, rainedAhead);
        pumpAndDraw(h, rule, month, r, rain > 0);
        return r;
    }

    private void pumpAndDraw(int[] h, Rule rule, int month, Month r, boolean rained) {
        int pumpable = Math.min(month == 7 ? 0 : h[5], h[1] - r.level);
        int most = 1000;
        if (rule.kind == 3) {
            Choice c = choice(month, r.level, rained);
            r.pumped = c.pumps;
            most = c.gives;
        }
        if (rule.kind == 4 && r.level < rule.n) r.pumped = pumpable;
        if (rule.kind == 5) most = rule.most[month];
        r.level += r.pumped;
        boolean halved = rule.kind == 1 && r.level < rule.n;
        give(h, month, r, most, halved, rule.kind >= 2);
    }

    private void give(int[] h, int month, Month r, int most, boolean halved, boolean byWorth) {
        List<Integer> order = new ArrayList<>();
        for (int u = 0; u < uses.size(); u++) order.add(u);
        if (byWorth) order.sort((a, b) -> uses.get(b).worth - uses.get(a).worth);
        r.cost = r.pumped * h[6];
        for (int u : order) {
            int want = wants(u, month);
            int gets = Math.min(halved ? want / 2 : want, Math.min(r.level, most - r.given));
            r.level -= gets;
            r.given += gets;
            r.lacks[u] = want - gets;
            r.cost += (want - gets) * uses.get(u).worth;
        }
    }

    /** What a BEST does behind step 2, every pair tried; the cost is that of all ways from here to month 11. */
    private Choice choice(int month, int level, boolean rained) {
        int key = (month * 201 + level) * 2 + (rained ? 1 : 0);
        Choice known = wisdom.get(key);
        if (known != null) return known;
        int all = 0;
        for (int u = 0; u < uses.size(); u++) all += wants(u, month);
        Choice best = null;
        for (int p = 0; p <= Math.min(month == 7 ? 0 : house[5], house[1] - level); p++) {
            for (int g = Math.min(level + p, all); g >= 0; g--) {
                Month r = new Month();
                r.level = level + p;
                r.pumped = p;
                give(house, month, r, g, false, true);
                BigInteger cost = BigInteger.valueOf(r.cost).multiply(ways(11 - month)).add(behind(month, r.level, rained));
                if (best == null || cost.compareTo(best.cost) < 0) best = new Choice(cost, p, g);
            }
        }
        wisdom.put(key, best);
        return best;
    }

    private BigInteger ways(int months) { return BigInteger.valueOf(years.size()).pow(months); }

    private BigInteger behind(int month, int level, boolean rained) {
        BigInteger sum = BigInteger.ZERO;
        for (int y = 0; y < years.size() && month < 11; y++) {
            Month r = new Month();
            fall(house, r, level, rainOf(y, month + 1), rained);
            sum = sum.add(choice(month + 1, r.level, rainOf(y, month + 1) > 0).cost);
        }
        return sum;
    }

    // ---- a run

    private List<Month> months(int[] h, Rule rule) {
        List<Month> list = new ArrayList<>();
        int level = h[1];
        boolean rained = true;
        for (int y = 0; y < years.size(); y++) {
            for (int m = 0; m < 12; m++) {
                Month r = oneMonth(h, rule, m, level, rainOf(y, m), rained);
                level = r.level;
                rained = rainOf(y, m) > 0;
                list.add(r);
            }
        }
        return list;
    }

    int run(int rule, int what) {
        if (noRule(rule)) return UNKNOWN;
        if (bare()) return STATE;
        if (what < 0 || what > 12 || what > 6 && what < 10) return OUTSIDE;
        if (what >= 10 && what - 10 >= uses.size()) return NONE;
        int sum = 0;
        for (Month r : months(house, rules.get(rule))) {
            switch (what) {
                case 0 -> sum += r.lacking() > 0 ? 1 : 0;
                case 1 -> sum += r.lacking();
                case 2 -> sum += r.cost;
                case 3 -> sum += r.over;
                case 4 -> sum += r.pumped;
                case 5 -> sum += r.leaked;
                case 6 -> sum = r.level;
                default -> sum += r.lacks[what - 10];
            }
        }
        return sum;
    }

    int month(int rule, int year, int month, int what) {
        if (noRule(rule) || noYear(year) || noMonth(month)) return UNKNOWN;
        if (bare()) return STATE;
        if (what < 0 || what > 6) return OUTSIDE;
        Month r = months(house, rules.get(rule)).get(12 * year + month);
        return new int[] {r.comes, r.over, r.leaked, r.pumped, r.given, r.level, r.cost}[what];
    }

    // ---- sizes

    private static final Rule ALL = new Rule(0, 0, null);

    private int dry(int size) {
        return (int) months(with(house, 1, size), ALL).stream().filter(r -> r.lacking() > 0).count();
    }

    private int costOf(int[] h, Rule rule) {
        return months(h, rule).stream().mapToInt(r -> r.cost).sum();
    }

    private static int least(IntPredicate holds) {
        for (int s = 0; s <= 200; s++) {
            if (holds.test(s)) return s;
        }
        return NONE;
    }

    int never(int what) {
        if (bare()) return STATE;
        if (what < 0 || what > 2) return OUTSIDE;
        int size = least(s -> dry(s) == 0);
        if (what == 0 || size <= 0) return what == 0 ? size : NONE;
        List<Month> all = months(with(house, 1, size - 1), ALL);
        int first = 0;
        while (all.get(first).lacking() == 0) first++;
        return what == 1 ? first / 12 : first % 12;
    }

    int let(int k) {
        if (bare()) return STATE;
        if (k < 0 || k > 96) return OUTSIDE;
        return least(s -> dry(s) <= k);
    }

    int cheapest(int rule, int price, int what) {
        if (noRule(rule)) return UNKNOWN;
        if (bare() || rules.get(rule).kind == 3) return STATE;
        if (price < 0 || price > 99 || what < 0 || what > 1) return OUTSIDE;
        if (searches >= 20) return STATE;
        searches++;
        int best = Integer.MAX_VALUE, at = -1;
        for (int s = 0; s <= 200; s++) {
            int c = price * s + costOf(with(house, 1, s), rules.get(rule));
            if (c < best) {
                best = c;
                at = s;
            }
        }
        return what == 0 ? at : best;
    }

    int share(int price, int roof, int what) {
        if (bare()) return STATE;
        if (price < 0 || price > 99 || roof < 0 || roof > 99 || what < 0 || what > 2) return OUTSIDE;
        if (searches >= 20) return STATE;
        searches++;
        int[] best = {0, 0, Integer.MAX_VALUE};
        for (int e = 0; e <= 5; e++) {
            for (int s = 0; s <= 200; s++) {
                int c = price * s + roof * e + costOf(with(with(house, 1, s), 0, house[0] + e), ALL);
                if (c < best[2]) best = new int[] {s, e, c};
            }
        }
        return best[what];
    }

    // ---- a year drawn

    private BigInteger drawn(Rule rule, boolean cost, int month, int level, boolean rained, Map<Integer, BigInteger> known) {
        if (month == 12) return cost ? BigInteger.ZERO : BigInteger.ONE;
        int key = (month * 201 + level) * 2 + (rained ? 1 : 0);
        if (known.containsKey(key)) return known.get(key);
        BigInteger sum = BigInteger.ZERO;
        for (int y = 0; y < years.size(); y++) {
            int rain = rainOf(y, month);
            Month r = oneMonth(house, rule, month, level, rain, rained);
            if (!cost && r.lacking() > 0) continue;
            if (cost) sum = sum.add(BigInteger.valueOf(r.cost).multiply(ways(11 - month)));
            sum = sum.add(drawn(rule, cost, month + 1, r.level, rain > 0, known));
        }
        known.put(key, sum);
        return sum;
    }

    private long drawnPart(int rule, int part, boolean cost) {
        if (noRule(rule)) return UNKNOWN;
        if (bare()) return STATE;
        if (part < 0 || part > 1) return OUTSIDE;
        BigInteger above = drawn(rules.get(rule), cost, 0, house[1], true, new HashMap<>());
        BigInteger common = above.gcd(ways(12));
        return (part == 0 ? above : ways(12)).divide(common).longValueExact();
    }

    long sure(int rule, int part) { return drawnPart(rule, part, false); }
    long mean(int rule, int part) { return drawnPart(rule, part, true); }

    int wise(int month, int level, boolean rained, int what) {
        if (bare()) return STATE;
        if (noMonth(month) || level < 0 || level > house[1] || what < 0 || what > 1) return OUTSIDE;
        Choice c = choice(month, level, rained);
        return what == 0 ? c.pumps : c.gives;
    }

    int hedge() {
        if (bare() || hedges == 2) return STATE;
        hedges++;
        BigInteger best = null;
        int at = NONE;
        for (int n = 0; n <= house[1]; n++) {
            BigInteger c = drawn(new Rule(1, n, null), true, 0, house[1], true, new HashMap<>());
            if (best == null || c.compareTo(best) < 0) {
                best = c;
                at = n;
            }
        }
        return at;
    }

    // ---- figures

    int read(int month, int level) {
        if (noMonth(month)) return UNKNOWN;
        if (level < -1 || level > 200) return OUTSIDE;
        int was = readings[month];
        readings[month] = level;
        return was;
    }

    private boolean agrees(Rule rule, int year, int leak, int from) {
        int level = house[1];
        boolean rained = true;
        for (int m = 0; m < 12; m++) {
            Month r = oneMonth(with(house, 4, m >= from ? leak : 0), rule, m, level, rainOf(year, m), rained);
            level = r.level;
            rained = rainOf(year, m) > 0;
            if (readings[m] >= 0 && readings[m] != level) return false;
        }
        return true;
    }

    int leaks(int rule, int year, int what) {
        if (noRule(rule) || noYear(year)) return UNKNOWN;
        if (housesRead == 0 || rules.get(rule).kind == 3) return STATE;
        if (what < 0 || what > 4) return OUTSIDE;
        List<int[]> pairs = new ArrayList<>();
        for (int l = 0; l <= 9; l++) {
            for (int m = 0; m <= 11; m++) {
                if ((l > 0 || m == 0) && agrees(rules.get(rule), year, l, m)) pairs.add(new int[] {l, m});
            }
        }
        return switch (what) {
            case 0 -> pairs.size();
            case 1 -> pairs.stream().mapToInt(p -> p[0]).min().orElse(NONE);
            case 2 -> pairs.stream().mapToInt(p -> p[0]).max().orElse(NONE);
            case 3 -> pairs.stream().mapToInt(p -> p[1]).min().orElse(NONE);
            default -> pairs.stream().mapToInt(p -> p[1]).max().orElse(NONE);
        };
    }

    // ---- what is told

    int image() {
        if (housesRead == 0) return STATE;
        kept = new Kept(house.clone(), new ArrayList<>(years), readings.clone(), housesRead);
        return years.size();
    }

    int restore() {
        if (kept == null || kept.of != housesRead) return STATE;
        house = kept.house.clone();
        years = new ArrayList<>(kept.years);
        readings = kept.readings.clone();
        wisdom.clear();
        return years.size();
    }

    int count(int what) {
        if (what < 0 || what > 7) return OUTSIDE;
        int read = 0;
        for (int r : readings) read += r >= 0 ? 1 : 0;
        return new int[] {uses.size(), years.size(), rules.size(), read, page.length(), housesRead, searches, hedges}[what];
    }

    long digest() {
        List<Integer> numbers = new ArrayList<>();
        if (housesRead > 0) {
            for (int what = 0; what <= 7; what++) numbers.add(houseTold(what));
            for (Use u : uses) numbers.addAll(List.of(u.want, u.hot, u.worth));
        }
        for (int y = 0; y < years.size(); y++) {
            for (int m = 0; m < 12; m++) numbers.add(rainOf(y, m));
        }
        for (int r = 0; r < rules.size(); r++) {
            numbers.addAll(List.of(rules.get(r).kind, rules.get(r).n));
            for (int what = 0; what <= 6 && rules.get(r).kind != 3 && !bare(); what++) numbers.add(run(r, what));
        }
        for (int r : readings) numbers.add(r);
        for (char c : page.toCharArray()) numbers.add((int) c);
        for (int what = 0; what <= 7; what++) numbers.add(count(what));
        long h = 401;
        for (int v : numbers) h = 31 * h + v;
        return h;
    }
}
