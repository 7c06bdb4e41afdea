import java.util.Arrays;

/**
 * A finds office: things dug up, the hoards they belong to, the law that counts them, what they are
 * worth, who is rewarded, who may see where they lay, and which museum has them.
 */
public final class FindsOffice {
    public static final int NONE = -1;

    private static final int NOT_TOLD = -2147483648;
    private static final int LAST_DAY = 20000;
    private static final int DAYS_A_YEAR = 365;
    private static final int FIRST_YEAR = 1950;
    private static final int LAST_YEAR = 2004;
    private static final int PERSONS = 30;
    private static final int PLOTS = 100;
    private static final int METALS = 3;
    private static final int MOST_WEIGHT = 10000;
    private static final int MOST_WORTH = 1000000;
    private static final int EDGES = 1001;
    private static final int[] WIDTHS = {500, 100, 10, 1};

    private int now;
    private final LawBook lawBook;
    private final LandBook landBook;
    private final FindBook findBook;
    private final Market market;
    private final Circle circle;
    private final int[] paidTo;

    public FindsOffice() {
        now = 0;
        lawBook = new LawBook();
        landBook = new LandBook();
        findBook = new FindBook();
        market = new Market();
        circle = new Circle();
        paidTo = new int[PERSONS];
    }

    public int go(int n) {
        if (!isBetween(n, 0, LAST_DAY)) {
            return NONE;
        }
        now = Math.min(now + n, LAST_DAY);
        return now;
    }

    public int law(int day, int what, int together) {
        return lawBook.enact(new Law(day, what, together));
    }

    public boolean owner(int plot, int day, int person) {
        return landBook.enter(plot, day, person);
    }

    public int find(int where, int what, int when, int who) {
        return findBook.enter(new Find(where, what, when, who, now));
    }

    public boolean part(int a, int b) {
        return findBook.separate(a, b, now);
    }

    public int hoard(int find) {
        findBook.gatherHoards(now);
        return findBook.hoardNumber(find);
    }

    public int size(int find, int day) {
        return isPast(day) ? hoardSizeOn(find, day) : NONE;
    }

    public boolean counts(int find) {
        return isTreasureOn(find, now);
    }

    public boolean counted(int find, int day) {
        return isPast(day) && isTreasureOn(find, day);
    }

    public int told(int find, int what) {
        Find asked = findBook.numbered(find);
        if (asked == null) {
            return NOT_TOLD;
        }
        switch (what) {
            case 0: return asked.found;
            case 1: return asked.known;
            case 2: return asked.metal;
            case 3: return asked.purity;
            case 4: return asked.weight;
            case 5: return asked.firstYear;
            case 6: return asked.lastYear;
            case 7: return asked.finder;
            case 8: return landownerOf(asked);
            case 9: return asked.keeper;
            default: return NOT_TOLD;
        }
    }

    public boolean index(int year, int value) {
        return market.setLevel(year, value);
    }

    public int sale(int metal, int day, int weight, int price) {
        return isPast(day) ? market.enter(new Sale(metal, day, weight, price)) : NONE;
    }

    public int worth(int find) {
        Find asked = findBook.numbered(find);
        return asked == null ? NONE : worthNow(asked);
    }

    public int share(int find, int person) {
        if (!isPerson(person)) {
            return 0;
        }
        findBook.gatherHoards(now);
        return rewardFor(find, person);
    }

    public int due(int person) {
        return isPerson(person) ? stillOpen(person) : 0;
    }

    public int settle(int person) {
        if (!isPerson(person)) {
            return 0;
        }
        int open = stillOpen(person);
        paidTo[person] += open;
        return open;
    }

    public int paid(int person) {
        return isPerson(person) ? paidTo[person] : 0;
    }

    public int place(int find, int rank) {
        Find asked = findBook.numbered(find);
        if (asked == null || !isRank(rank)) {
            return NONE;
        }
        return roundDown(asked.x, rank) * 1000 + roundDown(asked.y, rank);
    }

    public int within(int corner, int other, int rank) {
        if (!isRank(rank) || !isCorner(corner, rank) || !isCorner(other, rank)) {
            return NONE;
        }
        int left = corner / EDGES;
        int low = corner % EDGES;
        int right = other / EDGES;
        int high = other % EDGES;
        if (right <= left || high <= low) {
            return NONE;
        }
        return findBook.tally(left, right, low, high);
    }

    public int museum(int metals, int worth) {
        return circle.enter(new Museum(metals, worth));
    }

    public int offer(int find) {
        Find offered = findBook.numbered(find);
        if (offered == null || offered.keeper != NONE || !isTreasureOn(find, now)) {
            return NONE;
        }
        offered.keeper = circle.sell(offered.metal, worthNow(offered));
        return offered.keeper;
    }

    public int spent(int museum) {
        Museum asked = circle.numbered(museum);
        return asked == null ? NONE : asked.outlay;
    }

    public int count(int what) {
        switch (what) {
            case 0: return now;
            case 1: return findBook.told;
            case 2: return hoardsNow();
            case 3: return lawBook.told;
            case 4: return market.told;
            case 5: return circle.told;
            case 6: return findBook.pairsParted;
            case 7: return treasuresNow();
            case 8: return circle.next();
            default: return NONE;
        }
    }

    private static boolean isBetween(int value, int least, int most) {
        return value >= least && value <= most;
    }

    private static boolean isDay(int day) {
        return isBetween(day, 0, LAST_DAY);
    }

    private static boolean isPerson(int person) {
        return isBetween(person, 0, PERSONS - 1);
    }

    private static boolean isMetal(int metal) {
        return isBetween(metal, 0, METALS - 1);
    }

    private static boolean isRank(int rank) {
        return isBetween(rank, 0, WIDTHS.length - 1);
    }

    private static int yearOf(int day) {
        return FIRST_YEAR + day / DAYS_A_YEAR;
    }

    private static int roundDown(int edge, int rank) {
        int width = isRank(rank) ? WIDTHS[rank] : 1;
        return width > 0 ? edge - edge % width : edge;
    }

    private static boolean isCorner(int corner, int rank) {
        if (!isBetween(corner, 0, EDGES * EDGES - 1)) {
            return false;
        }
        int x = corner / EDGES;
        int y = corner % EDGES;
        return x == roundDown(x, rank) && y == roundDown(y, rank);
    }

    private boolean isPast(int day) {
        return isBetween(day, 0, now);
    }

    private int landownerOf(Find find) {
        return landBook.holderOn(find.plot(), find.found);
    }

    private int worthNow(Find find) {
        return market.appraise(find.metal, find.weight, yearOf(now));
    }

    private int hoardSizeOn(int number, int day) {
        findBook.gatherHoards(day);
        return findBook.hoardSize(number);
    }

    private boolean isTreasureOn(int number, int day) {
        findBook.gatherHoards(day);
        return lawThatCounts(number) != null;
    }

    /** Leans on the hoards gathered last, so that a sum over all finds gathers them only once. */
    private Law lawThatCounts(int number) {
        Find find = findBook.numbered(number);
        int fellows = findBook.hoardSize(number);
        if (find == null || fellows == NONE) {
            return null;
        }
        Law law = lawBook.inForce(find.found);
        return law != null && law.covers(find, fellows) ? law : null;
    }

    /** Leans on the hoards gathered last, as lawThatCounts does. */
    private int rewardFor(int number, int person) {
        Find find = findBook.numbered(number);
        Law law = lawThatCounts(number);
        if (find == null || law == null) {
            return 0;
        }
        int whole = worthNow(find);
        int finders = whole * law.percent / 100;
        int reward = find.finder == person ? finders : 0;
        // One person may be both finder and owner: then both parts are theirs.
        return landownerOf(find) == person ? reward + whole - finders : reward;
    }

    private int stillOpen(int person) {
        findBook.gatherHoards(now);
        int open = isPerson(person) ? -paidTo[person] : 0;
        for (int number = 0; number < findBook.told; number++) {
            open += rewardFor(number, person);
        }
        return open;
    }

    private int hoardsNow() {
        findBook.gatherHoards(now);
        int hoards = 0;
        for (int number = 0; number < findBook.told; number++) {
            if (findBook.hoardNumber(number) == number) {
                hoards++;
            }
        }
        return hoards;
    }

    private int treasuresNow() {
        findBook.gatherHoards(now);
        int treasures = 0;
        for (int number = 0; number < findBook.told; number++) {
            if (lawThatCounts(number) != null) {
                treasures++;
            }
        }
        return treasures;
    }

    /** A law as it was told; only a LawBook says whether it can be. */
    private static final class Law {
        final int from;
        final int age;
        final int parts;
        final int percent;
        final int together;

        Law(int day, int what, int together) {
            this.from = day;
            this.age = what / 1000000;
            this.parts = what / 1000 % 1000;
            this.percent = what % 1000;
            this.together = together;
        }

        // Of a negative text at least one of the numbers in it is negative, so none slips through.
        boolean isPossible() {
            return isDay(from) && isBetween(age, 0, 2000) && isBetween(parts, 0, 999)
                    && isBetween(percent, 0, 100) && isBetween(together, 1, FindBook.MOST);
        }

        boolean covers(Find find, int fellows) {
            boolean old = yearOf(find.found) - find.lastYear >= age;
            boolean precious = find.metal != 0 && find.purity >= parts;
            return old && (precious || fellows >= together);
        }
    }

    private static final class LawBook {
        static final int MOST = 20;

        final Law[] laws = new Law[MOST];
        int told = 0;

        int enact(Law law) {
            if (told >= MOST || !law.isPossible()) {
                return NONE;
            }
            laws[told] = law;
            told++;
            return told;
        }

        Law inForce(int day) {
            Law best = null;
            for (int i = 0; i < told && i < MOST; i++) {
                Law law = laws[i];
                if (law != null && law.from <= day && (best == null || law.from >= best.from)) {
                    best = law;
                }
            }
            return best;
        }
    }

    /** Who holds which plot from which day on, a row of each in the order of telling. */
    private static final class LandBook {
        static final int MOST = 100;

        final int[] plots = new int[MOST];
        final int[] days = new int[MOST];
        final int[] holders = new int[MOST];
        int told = 0;

        boolean enter(int plot, int day, int person) {
            boolean possible = isBetween(plot, 0, PLOTS - 1) && isDay(day) && isPerson(person);
            if (told >= MOST || !possible) {
                return false;
            }
            plots[told] = plot;
            days[told] = day;
            holders[told] = person;
            told++;
            return true;
        }

        int holderOn(int plot, int day) {
            int holder = 0;
            int since = 0;
            for (int i = 0; i < told && i < MOST; i++) {
                if (plots[i] == plot && days[i] <= day && days[i] >= since) {
                    holder = holders[i];
                    since = days[i];
                }
            }
            return holder;
        }
    }

    /** A find as it was told; only a FindBook says whether it can be. */
    private static final class Find {
        final int x;
        final int y;
        final int metal;
        final int purity;
        final int weight;
        final int firstYear;
        final int lastYear;
        final int found;
        final int finder;
        final int known;
        int keeper;

        Find(int where, int what, int when, int who, int now) {
            x = where / 1000;
            y = where % 1000;
            metal = what / 100000000;
            purity = what / 10000 % 10000;
            weight = what % 10000 == 0 ? MOST_WEIGHT : what % 10000;
            firstYear = when / 10000 - 3000;
            lastYear = when % 10000 - 3000;
            found = who / 100;
            finder = who % 100;
            known = now;
            keeper = NONE;
        }

        // Of a negative text at least one of the numbers in it is negative, so none slips through.
        boolean isPossible() {
            boolean placed = isBetween(x, 0, 999) && isBetween(y, 0, 999);
            boolean made = isMetal(metal) && isBetween(purity, 0, 1000)
                    && isBetween(weight, 1, MOST_WEIGHT);
            boolean dated = firstYear >= -3000 && firstYear <= lastYear && lastYear <= 2000;
            return placed && made && dated && isBetween(found, 0, known) && isPerson(finder);
        }

        int plot() {
            return x / 100 * 10 + y / 100;
        }

        boolean isNear(Find other) {
            return Math.abs(x - other.x) <= 10 && Math.abs(y - other.y) <= 10
                    && firstYear <= other.lastYear && other.firstYear <= lastYear;
        }
    }

    /** All finds, the pairs that were parted, and the hoards of the day that was gathered last. */
    private static final class FindBook {
        static final int MOST = 50;

        final Find[] finds = new Find[MOST];
        int told = 0;
        final int[] partedOn = new int[MOST * (MOST - 1) / 2];
        int pairsParted = 0;
        final int[] hoardOf = new int[MOST];
        final int[] sizeOf = new int[MOST];
        final int[] reached = new int[MOST];

        FindBook() {
            Arrays.fill(partedOn, NONE);
        }

        int enter(Find find) {
            if (told >= MOST || !find.isPossible()) {
                return NONE;
            }
            finds[told] = find;
            told++;
            return told - 1;
        }

        boolean isTold(int number) {
            return number >= 0 && number < told && number < MOST;
        }

        Find numbered(int number) {
            return isTold(number) ? finds[number] : null;
        }

        boolean separate(int a, int b, int day) {
            int pair = pairOf(a, b);
            if (pair == NONE || partedOn[pair] != NONE) {
                return false;
            }
            partedOn[pair] = day;
            pairsParted++;
            return true;
        }

        /** Where a pair stands in a triangle of all pairs; NONE if these are no pair. */
        int pairOf(int a, int b) {
            if (!isTold(a) || !isTold(b) || a == b) {
                return NONE;
            }
            int later = Math.max(a, b);
            return later * (later - 1) / 2 + Math.min(a, b);
        }

        boolean isJoined(int a, int b, int day) {
            Find one = numbered(a);
            Find two = numbered(b);
            if (one == null || two == null || !one.isNear(two)) {
                return false;
            }
            int pair = pairOf(a, b);
            return pair != NONE && (partedOn[pair] == NONE || partedOn[pair] > day);
        }

        void gatherHoards(int day) {
            Arrays.fill(hoardOf, NONE);
            int knowns = knownBy(day);
            for (int number = 0; number < knowns && number < MOST; number++) {
                // Going up by number, the first find of a hoard that is met bears its number.
                if (hoardOf[number] == NONE) {
                    sizeOf[number] = gatherFrom(number, knowns, day);
                }
            }
        }

        /** NOW never goes back, so the finds known by a day are the first ones. */
        int knownBy(int day) {
            int knowns = 0;
            for (int number = 0; number < told; number++) {
                Find find = numbered(number);
                if (find != null && find.known <= day) {
                    knowns = number + 1;
                }
            }
            return knowns;
        }

        int gatherFrom(int least, int knowns, int day) {
            hoardOf[least] = least;
            reached[0] = least;
            int size = 1;
            for (int done = 0; done < size && done < MOST; done++) {
                for (int number = least + 1; number < knowns && number < MOST; number++) {
                    boolean free = hoardOf[number] == NONE && size < MOST;
                    if (free && isJoined(reached[done], number, day)) {
                        hoardOf[number] = least;
                        reached[size] = number;
                        size++;
                    }
                }
            }
            return size;
        }

        int hoardNumber(int number) {
            return isTold(number) ? hoardOf[number] : NONE;
        }

        int hoardSize(int number) {
            int least = isTold(number) ? hoardOf[number] : NONE;
            return isTold(least) ? sizeOf[least] : NONE;
        }

        int tally(int left, int right, int low, int high) {
            int inside = 0;
            for (int number = 0; number < told; number++) {
                Find find = numbered(number);
                if (find != null && isBetween(find.x, left, right - 1)
                        && isBetween(find.y, low, high - 1)) {
                    inside++;
                }
            }
            return inside;
        }
    }

    /** A sale as it was told; only a Market says whether it can be. */
    private static final class Sale {
        final int metal;
        final int day;
        final int weight;
        final int price;

        Sale(int metal, int day, int weight, int price) {
            this.metal = metal;
            this.day = day;
            this.weight = weight;
            this.price = price;
        }

        boolean isPossible() {
            return isMetal(metal) && isDay(day) && isBetween(weight, 1, MOST_WEIGHT)
                    && isBetween(price, 0, MOST_WORTH);
        }
    }

    private static final class Market {
        static final int MOST = 60;
        static final int AT_FIRST = 100;

        final Sale[] sales = new Sale[MOST];
        int told = 0;
        final int[] levels = new int[LAST_YEAR - FIRST_YEAR + 1];

        Market() {
            Arrays.fill(levels, AT_FIRST);
        }

        boolean setLevel(int year, int value) {
            if (!isBetween(year, FIRST_YEAR, LAST_YEAR) || !isBetween(value, 1, 10000)) {
                return false;
            }
            levels[year - FIRST_YEAR] = value;
            return true;
        }

        int levelIn(int year) {
            int row = year - FIRST_YEAR;
            return row >= 0 && row < levels.length ? levels[row] : AT_FIRST;
        }

        int enter(Sale sale) {
            if (told >= MOST || !sale.isPossible()) {
                return NONE;
            }
            sales[told] = sale;
            told++;
            return salesOf(sale.metal);
        }

        int salesOf(int metal) {
            int like = 0;
            for (int i = 0; i < told && i < MOST; i++) {
                Sale sale = sales[i];
                if (sale != null && sale.metal == metal) {
                    like++;
                }
            }
            return like;
        }

        int appraise(int metal, int weight, int year) {
            long prices = 0;
            long weights = 0;
            for (int i = 0; i < told && i < MOST; i++) {
                Sale sale = sales[i];
                if (sale != null && sale.metal == metal) {
                    prices += priceIn(year, sale);
                    weights += sale.weight;
                }
            }
            if (weights <= 0) {
                return 0;
            }
            // In long, for 60 prices led up by 10000 and times a weight are far beyond int.
            return (int) Math.min(prices * weight / weights, MOST_WORTH);
        }

        long priceIn(int year, Sale sale) {
            int then = levelIn(yearOf(sale.day));
            return then > 0 ? (long) sale.price * levelIn(year) / then : 0;
        }
    }

    private static final class Museum {
        final int metals;
        final int mostWorth;
        int outlay;

        Museum(int metals, int mostWorth) {
            this.metals = metals;
            this.mostWorth = mostWorth;
            this.outlay = 0;
        }

        boolean isPossible() {
            return isBetween(metals, 0, 7) && isBetween(mostWorth, 0, MOST_WORTH);
        }

        boolean takes(int metal, int worth) {
            return (metals >> metal & 1) == 1 && worth <= mostWorth;
        }
    }

    /** The museums in their turns. */
    private static final class Circle {
        static final int MOST = 10;

        final Museum[] museums = new Museum[MOST];
        int told = 0;
        int behindLatest = 0;

        int enter(Museum museum) {
            if (told >= MOST || !museum.isPossible()) {
                return NONE;
            }
            museums[told] = museum;
            told++;
            return told - 1;
        }

        Museum numbered(int number) {
            return number >= 0 && number < told && number < MOST ? museums[number] : null;
        }

        /** Goes round only when asked: a museum that comes later may still be behind the latest. */
        int next() {
            if (told == 0) {
                return NONE;
            }
            return behindLatest < told ? behindLatest : 0;
        }

        int sell(int metal, int worth) {
            int first = next();
            for (int step = 0; step < told; step++) {
                int number = first + step < told ? first + step : first + step - told;
                Museum museum = numbered(number);
                if (museum != null && museum.takes(metal, worth)) {
                    museum.outlay += worth;
                    behindLatest = number + 1;
                    return number;
                }
            }
            return NONE;
        }
    }
}
