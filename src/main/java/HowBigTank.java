import java.util.Arrays;

/** How big a tank: a house, its years of rain, the rules by which it draws, and what follows from them. */
public final class HowBigTank {
    public static final int NONE = -1, UNKNOWN = -101, OUTSIDE = -102, STATE = -103, FULL = -104;

    private static final int MONTHS = 12, MOST_YEARS = 8, MOST_RULES = 8, MOST_USES = 3;
    private static final int MOST_SIZE = 200, MOST_LETTERS = 60, MOST_LEAK = 9, MOST_PRICE = 99;
    private static final int MOST_MORE_AREA = 5, MOST_SEARCHES = 20, MOST_HEDGES = 2, DRY_MONTH_WELL = 7;
    // A tank's state, a level and whether it rained, is told by one number: twice the level, and 1 if it rained.
    private static final int STATES = 2 * (MOST_SIZE + 1);
    private static final int MOST_WANTED = 72;
    private static final int ABOVE_ANY_TOTAL = 1 << 30;
    private static final long ABOVE_ANY_COST = 1L << 60;
    private static final int ALL = 0, HEDGE = 1, FIRST = 2, BEST = 3, WELL = 4, TOLD = 5;
    private static final int AREA = 0, SIZE = 1, LOSS = 2, WASH = 3, LEAK = 4, PUMP = 5, PRICE = 6, NUMBERS = 7;
    private static final int[] LEAST = {1, 0, 0, 0, 0, 0, 0};
    private static final int[] MOST = {20, 200, 9, 9, 9, 5, 9};

    private final Page page = new Page();
    private final House house = new House();
    private final Years years = new Years();
    private final Rule[] rules = new Rule[MOST_RULES];
    private final int[] readings = new int[MONTHS];
    private final Image image = new Image();
    private final Wisdom wisdom;
    private final Tank tank;
    private final Run course;
    private final Drawn drawn;
    private final Rule plainAll = new Rule();
    private int ruleCount;
    private int housesRead;
    private int searchesDone;
    private int hedgesDone;
    // What was reckoned from the house and the years holds as long as this number stays.
    private int version;

    public HowBigTank() {
        for (int i = 0; i < MOST_RULES; i++) {
            rules[i] = new Rule();
        }
        Arrays.fill(readings, NONE);
        wisdom = new Wisdom(house, years);
        tank = new Tank(house, wisdom);
        course = new Run(house, years, tank);
        drawn = new Drawn(house, years, tank);
    }

    // ---- texts

    public int letters(long w) {
        int more = Page.lettersIn(w);
        if (more < 0) {
            return OUTSIDE;
        }
        if (page.length + more > MOST_LETTERS) {
            return FULL;
        }
        page.append(w, more);
        return page.length;
    }

    public int blank() {
        int had = page.length;
        page.length = 0;
        return had;
    }

    public int fault(int sort) {
        if (sort < 0 || sort > 2) {
            return OUTSIDE;
        }
        page.isText(sort);
        return page.at;
    }

    public int house() {
        if (!page.isText(Page.HOUSE)) {
            return STATE;
        }
        house.takeOver(page);
        page.length = 0;
        housesRead++;
        version++;
        return house.uses;
    }

    public int year() {
        if (!page.isText(Page.YEAR)) {
            return STATE;
        }
        if (years.count >= MOST_YEARS) {
            return FULL;
        }
        System.arraycopy(page.found, 0, years.rains[years.count], 0, MONTHS);
        years.count++;
        page.length = 0;
        version++;
        return years.count - 1;
    }

    public int tell() {
        if (!page.isText(Page.RULE)) {
            return STATE;
        }
        if (ruleCount >= MOST_RULES) {
            return FULL;
        }
        Rule made = rules[ruleCount];
        made.kind = TOLD;
        made.n = 0;
        System.arraycopy(page.found, 0, made.most, 0, MONTHS);
        page.length = 0;
        ruleCount++;
        return ruleCount - 1;
    }

    public int rule(int kind, int n) {
        if (kind < ALL || kind > WELL) {
            return OUTSIDE;
        }
        int most = kind == HEDGE || kind == WELL ? MOST_SIZE : 0;
        if (n < 0 || n > most) {
            return OUTSIDE;
        }
        if (ruleCount >= MOST_RULES) {
            return FULL;
        }
        rules[ruleCount].kind = kind;
        rules[ruleCount].n = n;
        ruleCount++;
        return ruleCount - 1;
    }

    public int as(int rule, int kind) {
        if (isNoRule(rule)) {
            return UNKNOWN;
        }
        if (kind < ALL || kind > TOLD) {
            return OUTSIDE;
        }
        return rules[rule].isA(kind) ? rule : NONE;
    }

    public int houseTold(int what) {
        if (housesRead == 0) {
            return STATE;
        }
        if (what >= 0 && what < NUMBERS) {
            return house.numbers[what];
        }
        if (what == NUMBERS) {
            return house.uses;
        }
        if (what < 10 || what > 32 || what % 10 > 2) {
            return OUTSIDE;
        }
        return house.useTold(what / 10 - 1, what % 10);
    }

    public int change(int what, int v) {
        if (housesRead == 0) {
            return STATE;
        }
        if (what < 0 || what >= NUMBERS || v < LEAST[what] || v > MOST[what]) {
            return OUTSIDE;
        }
        int was = house.numbers[what];
        house.numbers[what] = v;
        house.settle();
        version++;
        return was;
    }

    public int rain(int year, int month) {
        if (isNoYear(year) || isNoMonth(month)) {
            return UNKNOWN;
        }
        return years.rains[year][month];
    }

    // ---- a run

    public int run(int rule, int what) {
        if (isNoRule(rule)) {
            return UNKNOWN;
        }
        if (lacksHouseOrYear()) {
            return STATE;
        }
        if (what < 0 || what > 12 || what > 6 && what < 10) {
            return OUTSIDE;
        }
        if (what >= 10 + house.uses) {
            return NONE;
        }
        passAllYears(rules[rule]);
        return what < 10 ? course.sums[what] : course.shortOf[what - 10];
    }

    public int month(int rule, int year, int month, int what) {
        if (isNoRule(rule) || isNoYear(year) || isNoMonth(month)) {
            return UNKNOWN;
        }
        if (lacksHouseOrYear()) {
            return STATE;
        }
        if (what < 0 || what > 6) {
            return OUTSIDE;
        }
        makeWise(rules[rule]);
        course.passUpTo(rules[rule], year, month);
        return tank.told(what);
    }

    // ---- sizes

    public int never(int what) {
        if (lacksHouseOrYear()) {
            return STATE;
        }
        if (what < 0 || what > 2) {
            return OUTSIDE;
        }
        int size = course.leastSize(plainAll, 0);
        if (what == 0 || size == NONE) {
            return size;
        }
        if (size == 0) {
            return NONE;
        }
        course.passAll(plainAll, house.numbers[AREA], size - 1);
        return what == 1 ? course.firstDry / MONTHS : course.firstDry % MONTHS;
    }

    public int let(int k) {
        if (lacksHouseOrYear()) {
            return STATE;
        }
        if (k < 0 || k > MOST_YEARS * MONTHS) {
            return OUTSIDE;
        }
        return course.leastSize(plainAll, k);
    }

    public int cheapest(int rule, int price, int what) {
        if (isNoRule(rule)) {
            return UNKNOWN;
        }
        if (lacksHouseOrYear() || rules[rule].kind == BEST) {
            return STATE;
        }
        if (isNoPrice(price) || what < 0 || what > 1) {
            return OUTSIDE;
        }
        if (searchesDone >= MOST_SEARCHES) {
            return STATE;
        }
        searchesDone++;
        course.search(rules[rule], price, 0, 0);
        return what == 0 ? course.bestSize : course.bestTotal;
    }

    public int share(int price, int roof, int what) {
        if (lacksHouseOrYear()) {
            return STATE;
        }
        if (isNoPrice(price) || isNoPrice(roof) || what < 0 || what > 2) {
            return OUTSIDE;
        }
        if (searchesDone >= MOST_SEARCHES) {
            return STATE;
        }
        searchesDone++;
        course.search(plainAll, price, roof, MOST_MORE_AREA);
        if (what == 0) {
            return course.bestSize;
        }
        return what == 1 ? course.bestMore : course.bestTotal;
    }

    // ---- a year drawn

    public long sure(int rule, int part) {
        if (isNoRule(rule)) {
            return UNKNOWN;
        }
        if (lacksHouseOrYear()) {
            return STATE;
        }
        if (part < 0 || part > 1) {
            return OUTSIDE;
        }
        Rule asked = rules[rule];
        if (asked.sureVersion != version) {
            makeWise(asked);
            asked.waysNeverDry = drawn.waysNeverDry(asked);
            asked.sureVersion = version;
        }
        return inLowestTerms(asked.waysNeverDry, part);
    }

    public long mean(int rule, int part) {
        if (isNoRule(rule)) {
            return UNKNOWN;
        }
        if (lacksHouseOrYear()) {
            return STATE;
        }
        if (part < 0 || part > 1) {
            return OUTSIDE;
        }
        Rule asked = rules[rule];
        if (asked.meanVersion != version) {
            makeWise(asked);
            asked.costOfAllWays = drawn.costOfAllWays(asked);
            asked.meanVersion = version;
        }
        return inLowestTerms(asked.costOfAllWays, part);
    }

    public int wise(int month, int level, boolean rained, int what) {
        if (lacksHouseOrYear()) {
            return STATE;
        }
        if (isNoMonth(month) || level < 0 || level > house.numbers[SIZE] || what < 0 || what > 1) {
            return OUTSIDE;
        }
        wisdom.bringUpTo(version);
        int state = stateOf(level, rained);
        return what == 0 ? wisdom.pumps[month][state] : wisdom.gives[month][state];
    }

    public int hedge() {
        if (lacksHouseOrYear() || hedgesDone >= MOST_HEDGES) {
            return STATE;
        }
        hedgesDone++;
        return drawn.bestHedge();
    }

    // ---- figures

    public int read(int month, int level) {
        if (isNoMonth(month)) {
            return UNKNOWN;
        }
        if (level < NONE || level > MOST_SIZE) {
            return OUTSIDE;
        }
        int was = readings[month];
        readings[month] = level;
        return was;
    }

    public int leaks(int rule, int year, int what) {
        if (isNoRule(rule) || isNoYear(year)) {
            return UNKNOWN;
        }
        if (housesRead == 0 || rules[rule].kind == BEST) {
            return STATE;
        }
        if (what < 0 || what > 4) {
            return OUTSIDE;
        }
        int agreeing = 0, leastLeak = NONE, mostLeak = NONE, firstMonth = NONE, lastMonth = NONE;
        for (int leak = 0; leak <= MOST_LEAK; leak++) {
            int starts = leak == 0 ? 1 : MONTHS;
            for (int start = 0; start < starts; start++) {
                if (!tank.agrees(rules[rule], years.rains[year], readings, leak, start)) {
                    continue;
                }
                agreeing++;
                leastLeak = leastLeak == NONE ? leak : leastLeak;
                mostLeak = leak;
                firstMonth = firstMonth == NONE ? start : Math.min(firstMonth, start);
                lastMonth = Math.max(lastMonth, start);
            }
        }
        switch (what) {
            case 0: return agreeing;
            case 1: return leastLeak;
            case 2: return mostLeak;
            case 3: return firstMonth;
            default: return lastMonth;
        }
    }

    // ---- what is told

    public int image() {
        if (housesRead == 0) {
            return STATE;
        }
        System.arraycopy(house.numbers, 0, image.numbers, 0, NUMBERS);
        image.years.copyFrom(years);
        System.arraycopy(readings, 0, image.readings, 0, MONTHS);
        image.ofHouse = housesRead;
        return years.count;
    }

    public int restore() {
        if (image.ofHouse == 0 || image.ofHouse != housesRead) {
            return STATE;
        }
        System.arraycopy(image.numbers, 0, house.numbers, 0, NUMBERS);
        house.settle();
        years.copyFrom(image.years);
        System.arraycopy(image.readings, 0, readings, 0, MONTHS);
        version++;
        return years.count;
    }

    public int count(int what) {
        switch (what) {
            case 0: return house.uses;
            case 1: return years.count;
            case 2: return ruleCount;
            case 3: return readingsKept();
            case 4: return page.length;
            case 5: return housesRead;
            case 6: return searchesDone;
            case 7: return hedgesDone;
            default: return OUTSIDE;
        }
    }

    public long digest() {
        long h = 401L;
        if (housesRead > 0) {
            h = house.digestOnto(h);
        }
        for (int y = 0; y < years.count; y++) {
            h = digestRow(h, years.rains[y], MONTHS);
        }
        for (int r = 0; r < ruleCount; r++) {
            h = 31 * h + rules[r].kind;
            h = 31 * h + rules[r].n;
            if (rules[r].kind != BEST && !lacksHouseOrYear()) {
                passAllYears(rules[r]);
                h = digestRow(h, course.sums, 7);
            }
        }
        h = digestRow(h, readings, MONTHS);
        h = digestRow(h, page.signs, page.length);
        for (int what = 0; what <= 7; what++) {
            h = 31 * h + count(what);
        }
        return h;
    }

    // ---- helpers

    private static long digestRow(long h, int[] row, int length) {
        for (int i = 0; i < length && i < row.length; i++) {
            h = 31 * h + row[i];
        }
        return h;
    }

    private static int stateOf(int level, boolean rained) {
        return 2 * level + (rained ? 1 : 0);
    }

    /** Steps 1 and 2 of a month. */
    private static int stateBehindLeak(House house, int state, int rain) {
        int size = house.numbers[SIZE];
        int level = (state >> 1) + house.comes[10 * (state & 1) + rain];
        level = (level > size ? size : level) - house.numbers[LEAK];
        return (level < 0 ? 0 : 2 * level) + (rain > 0 ? 1 : 0);
    }

    private static boolean isNoMonth(int month) {
        return month < 0 || month >= MONTHS;
    }

    private static boolean isNoPrice(int price) {
        return price < 0 || price > MOST_PRICE;
    }

    private boolean isNoRule(int rule) {
        return rule < 0 || rule >= ruleCount;
    }

    private boolean isNoYear(int year) {
        return year < 0 || year >= years.count;
    }

    private boolean lacksHouseOrYear() {
        return housesRead == 0 || years.count == 0;
    }

    private int readingsKept() {
        int kept = 0;
        for (int m = 0; m < MONTHS; m++) {
            if (readings[m] != NONE) {
                kept++;
            }
        }
        return kept;
    }

    private void makeWise(Rule rule) {
        if (rule.kind == BEST) {
            wisdom.bringUpTo(version);
        }
    }

    private void passAllYears(Rule rule) {
        makeWise(rule);
        course.passAll(rule, house.numbers[AREA], house.numbers[SIZE]);
    }

    private long inLowestTerms(long above, int part) {
        long below = 1;
        for (int m = 0; m < MONTHS; m++) {
            below *= years.count;
        }
        long a = above, b = below;
        for (int i = 0; i < 200 && b != 0; i++) {
            long rest = a % b;
            a = b;
            b = rest;
        }
        long whole = part == 0 ? above : below;
        return a == 0 ? whole : whole / a;
    }

    /** The page, and the reading of it. */
    private static final class Page {
        static final int HOUSE = 0, YEAR = 1, RULE = 2;
        final int[] signs = new int[MOST_LETTERS];
        // The numbers that the last reading found.
        final int[] found = new int[NUMBERS + 3 * MOST_USES];
        int length;
        int uses;
        // How far the last reading came, and whether all was well so far.
        int at;
        boolean fits;

        /** How many letters are told by w, or NONE if it tells some amiss. */
        static int lettersIn(long w) {
            int letters = 0;
            for (int i = 0; i < 8; i++) {
                int code = (int) (w >>> (8 * i)) & 255;
                if (code > 126 || code != 0 && letters < i) {
                    return NONE;
                }
                letters += code == 0 ? 0 : 1;
            }
            return letters;
        }

        void append(long w, int more) {
            for (int i = 0; i < more && i < 8 && length < MOST_LETTERS; i++) {
                signs[length] = (int) (w >>> (8 * i)) & 255;
                length++;
            }
        }

        boolean isText(int sort) {
            at = 0;
            fits = true;
            if (sort == HOUSE) {
                takeHouse();
            } else if (sort == YEAR) {
                takeYear();
            } else {
                takeRule();
            }
            return fits && at == length;
        }

        private void takeHouse() {
            takeNamed('a', AREA, LEAST[AREA]);
            takeNamed('s', SIZE, LEAST[SIZE]);
            takeNamed('l', LOSS, LEAST[LOSS]);
            takeNamed('w', WASH, LEAST[WASH]);
            found[LEAK] = 0;
            found[PUMP] = 0;
            found[PRICE] = 0;
            if (sees('k')) {
                takeNamed('k', LEAK, LEAST[LEAK]);
            }
            if (sees('p')) {
                takeNamed('p', PUMP, 1);
                takeNamed('q', PRICE, LEAST[PRICE]);
            }
            uses = 0;
            do {
                takeUse(NUMBERS + 3 * uses);
                uses++;
            } while (fits && at < length && uses < MOST_USES);
        }

        private void takeNamed(int sign, int number, int least) {
            takeSign(sign);
            found[number] = takeNumber(least, MOST[number]);
        }

        private void takeUse(int place) {
            takeSign(';');
            takeSign('u');
            found[place] = takeNumber(1, 15);
            takeSign('h');
            found[place + 1] = takeNumber(0, 9);
            takeSign('c');
            found[place + 2] = takeNumber(1, 9);
        }

        private void takeYear() {
            for (int m = 0; m < MONTHS && fits; m++) {
                found[m] = takeNumber(0, 9);
            }
        }

        private void takeRule() {
            for (int m = 0; m < MONTHS && fits; m++) {
                if (m > 0) {
                    takeSign(',');
                }
                found[m] = takeNumber(0, 99);
            }
        }

        private boolean sees(int sign) {
            return fits && at < length && signs[at] == sign;
        }

        private void takeSign(int sign) {
            fits = sees(sign);
            at += fits ? 1 : 0;
        }

        private int digitAhead() {
            boolean isDigit = at < length && signs[at] >= '0' && signs[at] <= '9';
            return isDigit ? signs[at] - '0' : NONE;
        }

        /** Where a number can't go on, what is to follow it finds the fault. */
        private int takeNumber(int least, int most) {
            int v = fits ? digitAhead() : NONE;
            if (v < least || v > most) {
                fits = false;
                return 0;
            }
            at++;
            for (int digit = 1; digit < 3 && v > 0; digit++) {
                int d = digitAhead();
                if (d == NONE || 10 * v + d > most) {
                    break;
                }
                v = 10 * v + d;
                at++;
            }
            return v;
        }
    }

    /** The house: its seven numbers and its uses. */
    private static final class House {
        final int[] numbers = new int[NUMBERS];
        final int[] want = new int[MOST_USES];
        final int[] hot = new int[MOST_USES];
        final int[] worth = new int[MOST_USES];
        // The uses by worth, the greatest first, of like ones the least.
        final int[] byWorth = new int[MOST_USES];
        // What comes by each rain: from 0 on if it had not rained ahead, from 10 on if it had.
        final int[] comes = new int[20];
        int uses;

        void takeOver(Page page) {
            System.arraycopy(page.found, 0, numbers, 0, NUMBERS);
            uses = Math.min(page.uses, MOST_USES);
            for (int i = 0; i < uses; i++) {
                want[i] = page.found[NUMBERS + 3 * i];
                hot[i] = page.found[NUMBERS + 3 * i + 1];
                worth[i] = page.found[NUMBERS + 3 * i + 2];
            }
            orderByWorth();
            settle();
        }

        private void orderByWorth() {
            for (int i = 0; i < uses; i++) {
                int place = i;
                for (int j = i; j > 0 && worth[byWorth[j - 1]] < worth[i]; j--) {
                    byWorth[j] = byWorth[j - 1];
                    place = j - 1;
                }
                byWorth[place] = i;
            }
        }

        /** What follows from the numbers is reckoned anew. */
        void settle() {
            for (int rain = 0; rain < 10; rain++) {
                comes[rain] = comesBy(numbers[AREA], rain, false);
                comes[10 + rain] = comesBy(numbers[AREA], rain, true);
            }
        }

        int comesBy(int area, int rain, boolean rainedAhead) {
            if (rain == 0) {
                return 0;
            }
            int c = area * rain - numbers[LOSS] - (rainedAhead ? 0 : numbers[WASH]);
            return c < 0 ? 0 : c;
        }

        int wantOf(int use, int month) {
            return month >= 5 && month <= 7 ? want[use] + hot[use] : want[use];
        }

        int mostPumped(int month) {
            return month == DRY_MONTH_WELL ? 0 : numbers[PUMP];
        }

        int useTold(int use, int what) {
            if (use < 0 || use >= uses) {
                return NONE;
            }
            if (what == 0) {
                return want[use];
            }
            return what == 1 ? hot[use] : worth[use];
        }

        long digestOnto(long h) {
            h = 31 * digestRow(h, numbers, NUMBERS) + uses;
            for (int i = 0; i < uses; i++) {
                h = 31 * h + want[i];
                h = 31 * h + hot[i];
                h = 31 * h + worth[i];
            }
            return h;
        }
    }

    /** The years as they were told. */
    private static final class Years {
        final int[][] rains = new int[MOST_YEARS][MONTHS];
        int count;

        void copyFrom(Years other) {
            count = Math.min(other.count, MOST_YEARS);
            for (int y = 0; y < count; y++) {
                System.arraycopy(other.rains[y], 0, rains[y], 0, MONTHS);
            }
        }
    }

    /** What an image keeps. */
    private static final class Image {
        final int[] numbers = new int[NUMBERS];
        final Years years = new Years();
        final int[] readings = new int[MONTHS];
        // How many houses had been read when it was kept; 0 if none was kept.
        int ofHouse;
    }

    /** A rule; what it was found to be worth in a year drawn is kept with it. */
    private static final class Rule {
        final int[] most = new int[MONTHS];
        int kind;
        int n;
        int sureVersion = NONE;
        int meanVersion = NONE;
        long waysNeverDry;
        long costOfAllWays;

        boolean isA(int asked) {
            return asked == ALL || asked == kind || asked == FIRST && goesByWorth();
        }

        boolean goesByWorth() {
            return kind >= FIRST;
        }
    }

    /** One tank, month by month, and what happened in the last month. */
    private static final class Tank {
        final House house;
        final Wisdom wisdom;
        final int[] shortOf = new int[MOST_USES];
        int area;
        int size;
        int leak;
        int level;
        boolean rained;
        int came;
        int ranOver;
        int leaked;
        int pumped;
        int given;
        int lacking;
        int cost;

        Tank(House house, Wisdom wisdom) {
            this.house = house;
            this.wisdom = wisdom;
        }

        void startFull(int ofArea, int ofSize) {
            area = ofArea;
            size = ofSize;
            leak = house.numbers[LEAK];
            level = ofSize;
            rained = true;
        }

        void pass(Rule rule, int month, int rain) {
            came = house.comesBy(area, rain, rained);
            rained = rain > 0;
            level += came;
            ranOver = level > size ? level - size : 0;
            level -= ranOver;
            leaked = level < leak ? level : leak;
            level -= leaked;
            pumpAndDraw(rule, month);
        }

        /** Steps 3 and 4 of a month, from the level behind the leak. */
        void pumpAndDraw(Rule rule, int month) {
            int left = choosePumpedAndGiven(rule, month);
            boolean halved = rule.kind == HEDGE && level < rule.n;
            boolean byWorth = rule.goesByWorth();
            given = 0;
            lacking = 0;
            cost = pumped * house.numbers[PRICE];
            for (int i = 0; i < house.uses; i++) {
                int use = byWorth ? house.byWorth[i] : i;
                int want = house.wantOf(use, month);
                int gets = halved ? want / 2 : want;
                gets = gets < left ? gets : left;
                left -= gets;
                given += gets;
                shortOf[use] = want - gets;
                lacking += want - gets;
                cost += (want - gets) * house.worth[use];
            }
            level -= given;
        }

        /** Pumps, and answers how many may be given together. */
        private int choosePumpedAndGiven(Rule rule, int month) {
            pumped = 0;
            int most = MOST_WANTED;
            if (rule.kind == BEST) {
                int state = stateOf(level, rained);
                pumped = wisdom.pumps[month][state];
                most = wisdom.gives[month][state];
            } else if (rule.kind == WELL && level < rule.n) {
                pumped = Math.min(house.mostPumped(month), size - level);
            } else if (rule.kind == TOLD) {
                most = rule.most[month];
            }
            level += pumped;
            return most < level ? most : level;
        }

        /** As month() tells it. */
        int told(int what) {
            switch (what) {
                case 0: return came;
                case 1: return ranOver;
                case 2: return leaked;
                case 3: return pumped;
                case 4: return given;
                case 5: return level;
                default: return cost;
            }
        }

        boolean agrees(Rule rule, int[] rains, int[] readings, int ofLeak, int start) {
            startFull(house.numbers[AREA], house.numbers[SIZE]);
            for (int m = 0; m < MONTHS; m++) {
                leak = m < start ? 0 : ofLeak;
                pass(rule, m, rains[m]);
                if (readings[m] != NONE && readings[m] != level) {
                    return false;
                }
            }
            return true;
        }
    }

    /** All years one behind the other, and the search for sizes by them. */
    private static final class Run {
        final House house;
        final Years years;
        final Tank tank;
        // As run() tells them from 0 on, and from 10 on.
        final int[] sums = new int[7];
        final int[] shortOf = new int[MOST_USES];
        // The first dry month, counted from month 0 of year 0.
        int firstDry;
        int bestSize;
        int bestMore;
        int bestTotal;

        Run(House house, Years years, Tank tank) {
            this.house = house;
            this.years = years;
            this.tank = tank;
        }

        void passAll(Rule rule, int area, int size) {
            Arrays.fill(sums, 0);
            Arrays.fill(shortOf, 0);
            firstDry = NONE;
            tank.startFull(area, size);
            for (int y = 0; y < years.count; y++) {
                for (int m = 0; m < MONTHS; m++) {
                    tank.pass(rule, m, years.rains[y][m]);
                    addMonth(y * MONTHS + m);
                }
            }
            sums[6] = tank.level;
        }

        private void addMonth(int number) {
            if (tank.lacking > 0) {
                sums[0]++;
                firstDry = firstDry == NONE ? number : firstDry;
                for (int i = 0; i < house.uses; i++) {
                    shortOf[i] += tank.shortOf[i];
                }
            }
            sums[1] += tank.lacking;
            sums[2] += tank.cost;
            sums[3] += tank.ranOver;
            sums[4] += tank.pumped;
            sums[5] += tank.leaked;
        }

        void passUpTo(Rule rule, int year, int month) {
            tank.startFull(house.numbers[AREA], house.numbers[SIZE]);
            for (int y = 0; y <= year; y++) {
                for (int m = 0; m < MONTHS && (y < year || m <= month); m++) {
                    tank.pass(rule, m, years.rains[y][m]);
                }
            }
        }

        /** By an ALL a greater size makes no month dry, so the least one is found by halves. */
        int leastSize(Rule plainAll, int dryMonths) {
            int low = 0, high = MOST_SIZE + 1;
            for (int i = 0; i < 10 && low < high; i++) {
                int middle = (low + high) / 2;
                passAll(plainAll, house.numbers[AREA], middle);
                if (sums[0] <= dryMonths) {
                    high = middle;
                } else {
                    low = middle + 1;
                }
            }
            return low > MOST_SIZE ? NONE : low;
        }

        /** As a cost is never below 0, what costs as much without it is not looked at. */
        void search(Rule rule, int price, int roof, int mostMore) {
            bestTotal = ABOVE_ANY_TOTAL;
            for (int more = 0; more <= mostMore; more++) {
                for (int size = 0; size <= MOST_SIZE; size++) {
                    int bought = price * size + roof * more;
                    if (bought >= bestTotal) {
                        break;
                    }
                    int cost = costBelow(rule, house.numbers[AREA] + more, size, bestTotal - bought);
                    if (cost < bestTotal - bought) {
                        bestTotal = bought + cost;
                        bestSize = size;
                        bestMore = more;
                    }
                }
            }
        }

        /** The cost of the run, or the limit if it is not below. */
        private int costBelow(Rule rule, int area, int size, int limit) {
            int cost = 0;
            tank.startFull(area, size);
            for (int y = 0; y < years.count; y++) {
                int[] rains = years.rains[y];
                for (int m = 0; m < MONTHS; m++) {
                    tank.pass(rule, m, rains[m]);
                    cost += tank.cost;
                    if (cost >= limit) {
                        return limit;
                    }
                }
            }
            return cost;
        }
    }

    /** What a BEST chooses, reckoned from the last month back; averages are kept as sums over all ways. */
    private static final class Wisdom {
        final House house;
        final Years years;
        final int[][] pumps = new int[MONTHS][STATES];
        final int[][] gives = new int[MONTHS][STATES];
        // The cost of all ways that may follow: of a state at a month's end, and of one behind its leak.
        final long[] atEnd = new long[STATES];
        final long[] behindLeak = new long[STATES];
        // By level ahead of the drawing: the least cost, and how many are given for it.
        final long[] costAhead = new long[MOST_SIZE + 1];
        final int[] givenAhead = new int[MOST_SIZE + 1];
        // By how many are given together: the cost of what is short.
        final long[] costOfGiven = new long[MOST_WANTED + 1];
        int wanted;
        int version = NONE;

        Wisdom(House house, Years years) {
            this.house = house;
            this.years = years;
        }

        void bringUpTo(int newest) {
            if (version == newest) {
                return;
            }
            version = newest;
            Arrays.fill(atEnd, 0L);
            long ways = 1;
            for (int month = MONTHS - 1; month >= 0; month--) {
                weighGiven(month, ways);
                for (int rained = 0; rained < 2; rained++) {
                    chooseGiven(rained);
                    choosePumped(month, rained, ways);
                }
                lookBack(month);
                ways *= years.count;
            }
        }

        private void weighGiven(int month, long ways) {
            long cost = 0;
            for (int i = 0; i < house.uses; i++) {
                cost += ways * house.worth[i] * house.wantOf(i, month);
            }
            wanted = 0;
            costOfGiven[0] = cost;
            for (int i = 0; i < house.uses; i++) {
                int use = house.byWorth[i];
                int want = house.wantOf(use, month);
                for (int tub = 0; tub < want && wanted < MOST_WANTED; tub++) {
                    cost -= ways * house.worth[use];
                    wanted++;
                    costOfGiven[wanted] = cost;
                }
            }
        }

        private void chooseGiven(int rained) {
            int size = house.numbers[SIZE];
            for (int level = 0; level <= size; level++) {
                int most = Math.min(level, wanted);
                long least = ABOVE_ANY_COST;
                int chosen = 0;
                for (int given = 0; given <= most; given++) {
                    long cost = costOfGiven[given] + atEnd[2 * (level - given) + rained];
                    if (cost <= least) {
                        least = cost;
                        chosen = given;
                    }
                }
                costAhead[level] = least;
                givenAhead[level] = chosen;
            }
        }

        private void choosePumped(int month, int rained, long ways) {
            int size = house.numbers[SIZE];
            long price = ways * house.numbers[PRICE];
            for (int level = 0; level <= size; level++) {
                int most = Math.min(house.mostPumped(month), size - level);
                long least = ABOVE_ANY_COST;
                int chosen = 0;
                for (int pumped = 0; pumped <= most; pumped++) {
                    long cost = price * pumped + costAhead[level + pumped];
                    if (cost < least) {
                        least = cost;
                        chosen = pumped;
                    }
                }
                behindLeak[2 * level + rained] = least;
                pumps[month][2 * level + rained] = chosen;
                gives[month][2 * level + rained] = givenAhead[level + chosen];
            }
        }

        /** From what may follow behind the leak of a month to what may follow the end of the one ahead. */
        private void lookBack(int month) {
            int size = house.numbers[SIZE];
            for (int state = 0; state < 2 * (size + 1); state++) {
                long sum = 0;
                for (int y = 0; y < years.count; y++) {
                    sum += behindLeak[stateBehindLeak(house, state, years.rains[y][month])];
                }
                atEnd[state] = sum;
            }
        }
    }

    /** A year drawn: in how many ways each state is come to. */
    private static final class Drawn {
        final House house;
        final Years years;
        final Tank tank;
        final Rule tried = new Rule();
        // Of a month, by the state behind the leak: the level at its end, what is short, the cost.
        final int[][] endAt = new int[MONTHS][STATES];
        final int[][] shortAt = new int[MONTHS][STATES];
        final int[][] costAt = new int[MONTHS][STATES];
        final long[] atEnd = new long[STATES];
        final long[] behindLeak = new long[STATES];

        Drawn(House house, Years years, Tank tank) {
            this.house = house;
            this.years = years;
            this.tank = tank;
        }

        long waysNeverDry(Rule rule) {
            layOut(rule, 0, house.numbers[SIZE]);
            startFull();
            for (int m = 0; m < MONTHS; m++) {
                letRain(m);
                draw(m, true);
            }
            long ways = 0;
            for (int state = 0; state < STATES; state++) {
                ways += atEnd[state];
            }
            return ways;
        }

        long costOfAllWays(Rule rule) {
            layOut(rule, 0, house.numbers[SIZE]);
            return costAsLaidOut();
        }

        /** From one n to the next the rule does otherwise at one level alone. */
        int bestHedge() {
            tried.kind = HEDGE;
            tried.n = 0;
            layOut(tried, 0, house.numbers[SIZE]);
            long least = costAsLaidOut();
            int best = 0;
            for (int n = 1; n <= house.numbers[SIZE]; n++) {
                tried.n = n;
                layOut(tried, n - 1, n - 1);
                long cost = costAsLaidOut();
                if (cost < least) {
                    least = cost;
                    best = n;
                }
            }
            return best;
        }

        private void layOut(Rule rule, int lowest, int highest) {
            tank.startFull(house.numbers[AREA], house.numbers[SIZE]);
            for (int m = 0; m < MONTHS; m++) {
                for (int level = lowest; level <= highest; level++) {
                    layOutState(rule, m, 2 * level);
                    layOutState(rule, m, 2 * level + 1);
                }
            }
        }

        private void layOutState(Rule rule, int month, int state) {
            tank.level = state >> 1;
            tank.rained = (state & 1) == 1;
            tank.pumpAndDraw(rule, month);
            endAt[month][state] = tank.level;
            shortAt[month][state] = tank.lacking;
            costAt[month][state] = tank.cost;
        }

        private void startFull() {
            Arrays.fill(atEnd, 0L);
            atEnd[stateOf(house.numbers[SIZE], true)] = 1;
        }

        private long costAsLaidOut() {
            long cost = 0;
            startFull();
            for (int m = 0; m < MONTHS; m++) {
                letRain(m);
                cost = cost * years.count + draw(m, false);
            }
            return cost;
        }

        private void letRain(int month) {
            Arrays.fill(behindLeak, 0L);
            int states = 2 * (house.numbers[SIZE] + 1);
            for (int state = 0; state < states; state++) {
                long ways = atEnd[state];
                for (int y = 0; y < years.count && ways > 0; y++) {
                    behindLeak[stateBehindLeak(house, state, years.rains[y][month])] += ways;
                }
            }
        }

        /** Steps 3 and 4 of a month: what they cost in all ways; where only the never dry are asked for, the dry end. */
        private long draw(int month, boolean neverDry) {
            Arrays.fill(atEnd, 0L);
            int states = 2 * (house.numbers[SIZE] + 1);
            int[] ends = endAt[month], costs = costAt[month], shorts = shortAt[month];
            long cost = 0;
            for (int state = 0; state < states; state++) {
                long ways = behindLeak[state];
                if (ways > 0 && !(neverDry && shorts[state] > 0)) {
                    atEnd[2 * ends[state] + (state & 1)] += ways;
                    cost += ways * costs[state];
                }
            }
            return cost;
        }
    }
}
