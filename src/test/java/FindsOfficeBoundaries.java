import java.lang.reflect.InvocationTargetException;
import java.lang.reflect.Method;
import java.util.ArrayList;
import java.util.Arrays;
import java.util.Comparator;
import java.util.List;

/**
 * The boundary cases, promise by promise: each sentence of the document that names one (too small, too
 * large, empty, full, a wrap-around, a refused call) has a test of its own. Every method whose name
 * begins with "terms" or "promise" is such a test; main finds them by that, so that none is forgotten.
 */
public final class FindsOfficeBoundaries {
    private static final int NONE = -1;
    private static final int NOT_TOLD = -2147483648;
    private static final int MOST = 1000000;
    private static final int[] FAR = {-2147483648, -2147483647, -2000000000, -1000000000, -65536, -20001,
        2147483646, 2147483647};

    private static String test = "";
    private static int wrong = 0;

    public static void main(String[] args) throws IllegalAccessException {
        List<Method> tests = new ArrayList<>();
        for (Method method : FindsOfficeBoundaries.class.getDeclaredMethods()) {
            if (method.getName().startsWith("terms") || method.getName().startsWith("promise")) {
                tests.add(method);
            }
        }
        tests.sort(Comparator.comparing(Method::getName));
        for (Method method : tests) {
            run(method);
        }
        everyPromiseHasATest(tests);
        System.out.println(wrong == 0 ? tests.size() + " boundary tests hold" : wrong + " answers are not as due");
        if (wrong != 0) {
            System.exit(1);
        }
    }

    private static void run(Method method) throws IllegalAccessException {
        test = method.getName();
        try {
            method.invoke(null);
        } catch (InvocationTargetException thrown) {
            wrong++;
            System.out.println(test + " threw " + thrown.getCause());
        }
    }

    private static void everyPromiseHasATest(List<Method> tests) {
        for (int promise = 1; promise <= 24; promise++) {
            String name = "promise" + (promise < 10 ? "0" : "") + promise;
            if (tests.stream().noneMatch(method -> method.getName().startsWith(name))) {
                wrong++;
                System.out.println(name + " has no boundary test");
            }
        }
    }

    private static void same(String call, long got, long want) {
        if (got != want) {
            wrong++;
            System.out.println(test + ": " + call + " answered " + got + ", due is " + want);
        }
    }

    private static void yes(String call, boolean got) {
        same(call, got ? 1 : 0, 1);
    }

    private static void no(String call, boolean got) {
        same(call, got ? 1 : 0, 0);
    }

    private static int where(int x, int y) {
        return x * 1000 + y;
    }

    private static int what(int metal, int purity, int weight) {
        return metal * 100000000 + purity * 10000 + weight % 10000;
    }

    private static int when(int first, int last) {
        return (first + 3000) * 10000 + last + 3000;
    }

    private static int who(int person, int day) {
        return person + 100 * day;
    }

    private static int rule(int age, int parts, int percent) {
        return age * 1000000 + parts * 1000 + percent;
    }

    private static int edge(int x, int y) {
        return x * 1001 + y;
    }

    private static int silver(FindsOffice x, int px, int py) {
        return x.find(where(px, py), what(1, 500, 1), when(0, 0), who(0, 0));
    }

    private static int stone(FindsOffice x, int px, int py) {
        return x.find(where(px, py), what(0, 0, 1), when(0, 0), who(0, 0));
    }

    private static FindsOffice on(int day) {
        FindsOffice x = new FindsOffice();
        x.go(day);
        return x;
    }

    // ---- Terms 1: days, years, persons, places, plots, the owner and the law of a day

    static void terms1YearIsCut() {
        int[][] days = {{0, 1950}, {364, 1950}, {365, 1951}, {729, 1951}, {730, 1952}, {19709, 2003},
            {19710, 2004}, {20000, 2004}};
        for (int[] day : days) {
            FindsOffice x = on(day[0]);
            x.law(0, rule(1, 0, 0), 50);
            x.find(where(0, 0), what(1, 0, 1), when(0, Math.min(2000, day[1] - 1)), who(0, day[0]));
            x.find(where(99, 0), what(1, 0, 1), when(0, Math.min(2000, day[1])), who(0, day[0]));
            yes("day " + day[0] + ", a year old", x.counts(0));
            same("day " + day[0] + ", of its own year", x.counts(1) ? 1 : 0, day[1] > 2000 ? 1 : 0);
        }
    }

    static void terms1YearOfTheLastDayHasAnIndex() {
        FindsOffice x = on(20000);
        x.find(0, what(1, 0, 1), when(0, 0), 0);
        x.sale(1, 0, 1, 100);
        x.index(2003, 7);
        same("not of the year before", x.worth(0), 100);
        x.index(2004, 300);
        same("of the last year", x.worth(0), 300);
    }

    static void terms1PlotIsCutAtEachHundred() {
        int[][] places = {{0, 0, 0}, {99, 99, 0}, {0, 100, 1}, {99, 199, 1}, {100, 0, 10}, {199, 99, 10},
            {899, 999, 89}, {900, 899, 98}, {900, 900, 99}, {999, 999, 99}, {0, 999, 9}, {999, 0, 90}};
        for (int[] place : places) {
            for (int plot = 0; plot < 100; plot++) {
                FindsOffice x = new FindsOffice();
                stone(x, place[0], place[1]);
                x.owner(plot, 0, 17);
                same(place[0] + ", " + place[1] + " in plot " + plot, x.told(0, 8), plot == place[2] ? 17 : 0);
            }
        }
    }

    static void terms1OwnerIsPerson0WithoutOne() {
        FindsOffice x = on(10);
        x.find(0, what(1, 0, 1), when(0, 0), who(1, 5));
        same("nobody was told", x.told(0, 8), 0);
        x.owner(0, 6, 2);
        same("from the day behind on", x.told(0, 8), 0);
        x.owner(1, 0, 3);
        same("of the next plot", x.told(0, 8), 0);
    }

    static void terms1OwnerWithTheGreatestDayNotAbove() {
        FindsOffice x = on(10);
        x.find(0, what(1, 0, 1), when(0, 0), who(1, 5));
        x.owner(0, 0, 1);
        same("from day 0 on", x.told(0, 8), 1);
        x.owner(0, 4, 2);
        same("from the day ahead on", x.told(0, 8), 2);
        x.owner(0, 5, 3);
        same("from the day itself on", x.told(0, 8), 3);
        x.owner(0, 6, 4);
        same("from the day behind on", x.told(0, 8), 3);
        x.owner(0, 4, 5);
        same("the day ahead, told later", x.told(0, 8), 3);
    }

    static void terms1OwnerOfLikeDaysTheLatestTold() {
        FindsOffice x = on(10);
        x.find(0, what(1, 0, 1), when(0, 0), who(1, 5));
        for (int person = 29; person >= 0; person--) {
            x.owner(0, 5, person);
            same("person " + person, x.told(0, 8), person);
        }
    }

    static void terms1WithoutALawNothingCounts() {
        FindsOffice x = on(10);
        x.find(0, what(2, 1000, 1), when(-3000, -3000), who(1, 5));
        no("without any", x.counts(0));
        x.law(6, 0, 1);
        no("with one from the day behind on", x.counts(0));
        same("so nobody has anything", x.count(7), 0);
        x.law(5, 0, 1);
        yes("with one from the day itself on", x.counts(0));
    }

    static void terms1LawWithTheGreatestDayNotAbove() {
        FindsOffice x = on(10);
        x.find(0, what(2, 500, 1), when(0, 0), who(1, 5));
        x.law(0, rule(0, 500, 0), 50);
        yes("from day 0 on", x.counts(0));
        x.law(4, rule(0, 501, 0), 50);
        no("from the day ahead on", x.counts(0));
        x.law(5, rule(0, 500, 0), 50);
        yes("from the day itself on", x.counts(0));
        x.law(6, rule(0, 501, 0), 50);
        yes("from the day behind on", x.counts(0));
        x.law(4, rule(0, 501, 0), 50);
        yes("the day ahead, told later", x.counts(0));
    }

    static void terms1LawOfLikeDaysTheLatestTold() {
        FindsOffice x = on(10);
        x.find(0, what(2, 500, 1), when(0, 0), who(1, 5));
        for (int i = 0; i < 20; i++) {
            x.law(5, rule(0, 500 + i % 2, 0), 50);
            same("law " + i, x.counts(0) ? 1 : 0, 1 - i % 2);
        }
    }

    static void terms1LawOfTheLastDay() {
        FindsOffice x = on(20000);
        x.law(20000, 0, 1);
        x.find(0, what(0, 0, 1), when(0, 0), who(0, 19999));
        x.find(0, what(0, 0, 1), when(0, 0), who(0, 20000));
        no("found the day ahead", x.counts(0));
        yes("found on it", x.counts(1));
    }

    // ---- Terms 2 and promise 7: joined finds and hoards

    private static void apart(int dx, int dy, boolean joined) {
        FindsOffice x = new FindsOffice();
        stone(x, 500, 500);
        stone(x, 500 + dx, 500 + dy);
        same("apart by " + dx + ", " + dy, x.hoard(1), joined ? 0 : 1);
        same("hoards apart by " + dx + ", " + dy, x.count(2), joined ? 1 : 2);
    }

    static void terms2NotMoreThan10Apart() {
        for (int dx = -11; dx <= 11; dx++) {
            for (int dy = -11; dy <= 11; dy++) {
                apart(dx, dy, Math.abs(dx) < 11 && Math.abs(dy) < 11);
            }
        }
    }

    static void terms2NearOnlyByXOrY() {
        apart(0, 499, false);
        apart(0, -500, false);
        apart(499, 0, false);
        apart(-500, 0, false);
    }

    static void terms2AYearInCommon() {
        int[][] times = {{100, 200, 0}, {50, 99, 1}, {50, 100, 0}, {201, 250, 1}, {200, 250, 0}, {100, 100, 0},
            {200, 200, 0}, {99, 99, 1}, {201, 201, 1}, {150, 150, 0}, {-3000, 2000, 0}, {-3000, 99, 1},
            {201, 2000, 1}};
        for (int[] time : times) {
            FindsOffice x = new FindsOffice();
            x.find(0, what(0, 0, 1), when(100, 200), 0);
            x.find(0, what(0, 0, 1), when(time[0], time[1]), 0);
            same(time[0] + " to " + time[1], x.hoard(1), time[2]);
            FindsOffice y = new FindsOffice();
            y.find(0, what(0, 0, 1), when(time[0], time[1]), 0);
            y.find(0, what(0, 0, 1), when(100, 200), 0);
            same(time[0] + " to " + time[1] + ", told first", y.hoard(1), time[2]);
        }
    }

    static void terms2JoinedIsNotInheritedByTime() {
        FindsOffice x = new FindsOffice();
        x.find(0, what(0, 0, 1), when(0, 10), 0);
        x.find(0, what(0, 0, 1), when(20, 30), 0);
        same("no year in common", x.count(2), 2);
        x.find(0, what(0, 0, 1), when(10, 20), 0);
        same("reached over the third", x.hoard(1), 0);
        same("one hoard", x.count(2), 1);
    }

    static void terms2WereNotParted() {
        FindsOffice x = new FindsOffice();
        stone(x, 0, 0);
        stone(x, 0, 0);
        same("one place", x.hoard(1), 0);
        x.part(0, 1);
        same("parted", x.hoard(1), 1);
        same("the least is its own", x.hoard(0), 0);
        stone(x, 10, 10);
        same("reached over another", x.hoard(1), 0);
    }

    static void terms2NumberIsTheLeast() {
        FindsOffice x = new FindsOffice();
        for (int i = 0; i < 10; i++) {
            stone(x, 900 - 90 * i, 0);
        }
        for (int i = 9; i >= 1; i--) {
            stone(x, 900 - 90 * i + 10, 0);
            same("the later one is with find " + i, x.hoard(x.count(1) - 1), i);
        }
        same("hoards", x.count(2), 10);
    }

    static void terms2HoardOfAllFifty() {
        FindsOffice x = new FindsOffice();
        for (int i = 0; i < 50; i++) {
            // Told from both ends towards the middle, so that only the last one joins all.
            stone(x, i % 2 == 0 ? 5 * i : 495 - 5 * i, 0);
        }
        same("from the last", x.hoard(49), 0);
        same("one hoard", x.count(2), 1);
        same("all of them", x.size(25, 0), 50);
    }

    // ---- Terms 2 and promise 9: what counts

    static void terms2AtLeastAgeYears() {
        FindsOffice x = new FindsOffice();
        x.law(0, rule(300, 0, 0), 50);
        x.find(where(0, 0), what(1, 0, 1), when(0, 1649), 0);
        x.find(where(100, 0), what(1, 0, 1), when(0, 1650), 0);
        x.find(where(200, 0), what(1, 0, 1), when(0, 1651), 0);
        yes("301 years", x.counts(0));
        yes("300 years", x.counts(1));
        no("299 years", x.counts(2));
    }

    static void terms2AgeGoesByTheLastYear() {
        FindsOffice x = new FindsOffice();
        x.law(0, rule(300, 0, 0), 50);
        x.find(0, what(1, 0, 1), when(-3000, 1651), 0);
        no("its first year is old enough, its last isn't", x.counts(0));
    }

    static void terms2AgeGoesByTheDayOfTheFinding() {
        FindsOffice x = on(365);
        x.law(0, rule(300, 0, 0), 50);
        x.find(where(0, 0), what(1, 0, 1), when(0, 1651), who(0, 364));
        x.find(where(100, 0), what(1, 0, 1), when(0, 1651), who(0, 365));
        no("found in 1950, told in 1951", x.counts(0));
        yes("found in 1951", x.counts(1));
    }

    static void terms2AgeNothing() {
        FindsOffice x = new FindsOffice();
        x.law(0, rule(0, 0, 0), 1);
        x.find(where(0, 0), what(1, 0, 1), when(1950, 1950), 0);
        x.find(where(100, 0), what(1, 0, 1), when(1950, 1951), 0);
        x.find(where(200, 0), what(1, 0, 1), when(2000, 2000), 0);
        yes("of the year itself", x.counts(0));
        no("of the next year", x.counts(1));
        no("of the last year of all", x.counts(2));
    }

    static void terms2AgeGreatest() {
        FindsOffice x = new FindsOffice();
        x.law(0, rule(2000, 0, 0), 1);
        x.find(where(0, 0), what(1, 0, 1), when(-3000, -50), 0);
        x.find(where(100, 0), what(1, 0, 1), when(-3000, -49), 0);
        yes("2000 years", x.counts(0));
        no("1999 years", x.counts(1));
    }

    static void terms2MetalIsNot0() {
        FindsOffice x = new FindsOffice();
        x.law(0, 0, 2);
        for (int metal = 0; metal < 3; metal++) {
            x.find(where(100 * metal, 0), what(metal, 1000, 1), when(0, 0), 0);
            same("metal " + metal, x.counts(metal) ? 1 : 0, metal == 0 ? 0 : 1);
        }
    }

    static void terms2PurityAtLeastParts() {
        for (int parts : new int[] {0, 1, 500, 999}) {
            FindsOffice x = new FindsOffice();
            x.law(0, rule(0, parts, 0), 50);
            x.find(where(0, 0), what(1, parts, 1), when(0, 0), 0);
            x.find(where(100, 0), what(2, parts + 1, 1), when(0, 0), 0);
            x.find(where(200, 0), what(2, Math.max(0, parts - 1), 1), when(0, 0), 0);
            yes("just pure enough for " + parts, x.counts(0));
            yes("purer than " + parts, x.counts(1));
            same("less pure than " + parts, x.counts(2) ? 1 : 0, parts == 0 ? 1 : 0);
        }
    }

    static void terms2AtLeastTogether() {
        FindsOffice x = new FindsOffice();
        x.law(0, rule(0, 999, 0), 3);
        for (int i = 0; i < 4; i++) {
            stone(x, 10 * i, 0);
            same("finds that count of " + (i + 1), x.count(7), i < 2 ? 0 : i + 1);
        }
        x.part(1, 2);
        same("two and two", x.count(7), 0);
    }

    static void terms2TogetherOneIsAlways() {
        FindsOffice x = new FindsOffice();
        x.law(0, rule(0, 999, 0), 1);
        stone(x, 0, 0);
        yes("alone, without metal", x.counts(0));
        FindsOffice y = new FindsOffice();
        y.law(0, rule(0, 999, 0), 2);
        stone(y, 0, 0);
        no("together 2, alone", y.counts(0));
    }

    static void terms2TogetherGreatest() {
        FindsOffice x = new FindsOffice();
        x.law(0, rule(0, 999, 0), 50);
        for (int i = 0; i < 49; i++) {
            stone(x, i, 0);
        }
        same("49 of 50", x.count(7), 0);
        stone(x, 49, 0);
        same("50 of 50", x.count(7), 50);
    }

    static void terms2TogetherDoesNotMakeOlder() {
        FindsOffice x = new FindsOffice();
        x.law(0, rule(1951, 999, 0), 2);
        stone(x, 0, 0);
        stone(x, 0, 0);
        same("together, but too young", x.count(7), 0);
    }

    // ---- Terms 3: index, worth, shares

    static void terms3IndexIs100AtFirst() {
        FindsOffice x = new FindsOffice();
        x.find(0, what(1, 0, 1), when(0, 0), 0);
        x.sale(1, 0, 1, 50);
        same("in 1950", x.worth(0), 50);
        x.index(1950, 1);
        for (int year = 1951; year <= 2004; year++) {
            x.go(365);
            same("in " + year, x.worth(0), 5000);
        }
        x.index(2004, 100);
        x.index(1950, 100);
        same("told as it was at first", x.worth(0), 50);
    }

    static void terms3EachPriceIsCut() {
        FindsOffice x = new FindsOffice();
        x.index(1950, 10);
        x.index(1951, 9);
        x.find(0, what(1, 0, 2), when(0, 0), 0);
        x.sale(1, 0, 1, 1);
        x.sale(1, 0, 1, 1);
        same("in its own year", x.worth(0), 2);
        x.go(365);
        same("9 by 10 is cut to 0, twice", x.worth(0), 0);
        x.index(1951, 10);
        same("10 by 10", x.worth(0), 2);
        x.index(1951, 19);
        same("19 by 10 is cut to 1, twice", x.worth(0), 2);
        x.index(1951, 20);
        same("20 by 10", x.worth(0), 4);
    }

    static void terms3PriceIsTimesBeforeItIsCut() {
        FindsOffice x = new FindsOffice();
        x.index(1950, 3);
        x.index(1951, 2);
        x.find(0, what(1, 0, 1), when(0, 0), 0);
        x.sale(1, 0, 1, 3);
        x.go(365);
        same("3 times 2 by 3", x.worth(0), 2);
    }

    static void terms3WorthIsCut() {
        FindsOffice x = new FindsOffice();
        for (int weight = 1; weight <= 6; weight++) {
            x.find(0, what(1, 0, weight), when(0, 0), 0);
        }
        x.sale(1, 0, 2, 1);
        x.sale(1, 0, 1, 1);
        int[] want = {0, 1, 2, 2, 3, 4};
        for (int find = 0; find < want.length; find++) {
            same("2 times " + (find + 1) + " by 3", x.worth(find), want[find]);
        }
    }

    static void terms3WorthIs0WithoutAnySale() {
        FindsOffice x = new FindsOffice();
        for (int metal = 0; metal < 3; metal++) {
            x.find(0, what(metal, 0, 10000), when(0, 0), 0);
            same("without any", x.worth(metal), 0);
        }
        x.sale(1, 0, 1, 5);
        same("of metal 0 without any", x.worth(0), 0);
        same("of metal 1", x.worth(1), 50000);
        same("of metal 2 without any", x.worth(2), 0);
        FindsOffice y = new FindsOffice();
        y.find(0, what(1, 0, 10000), when(0, 0), 0);
        y.sale(1, 0, 1, 0);
        same("with one of price 0", y.worth(0), 0);
    }

    static void terms3WorthIsAMillionAtMost() {
        FindsOffice x = new FindsOffice();
        x.find(0, what(1, 0, 9999), when(0, 0), 0);
        x.find(0, what(1, 0, 10000), when(0, 0), 0);
        x.find(0, what(2, 0, 1), when(0, 0), 0);
        x.sale(1, 0, 1, 100);
        same("below", x.worth(0), 999900);
        same("just so", x.worth(1), MOST);
        x.sale(1, 0, 1, 101);
        same("just above", x.worth(1), MOST);
        x.sale(2, 0, 1, 999999);
        same("one below", x.worth(2), 999999);
    }

    static void terms3WorthDoesNotWrapAround() {
        FindsOffice x = new FindsOffice();
        x.find(0, what(1, 0, 10000), when(0, 0), 0);
        x.find(0, what(1, 0, 1), when(0, 0), 0);
        x.index(1950, 1);
        x.index(1951, 10000);
        for (int i = 0; i < 60; i++) {
            x.sale(1, 0, 1, MOST);
            x.go(i == 0 ? 365 : 0);
            same("the widest, with " + i, x.worth(0), MOST);
            same("of weight 1, with " + i, x.worth(1), MOST);
        }
        x.index(1951, 1);
        x.index(1950, 10000);
        same("100 each", x.worth(1), 100);
    }

    static void terms3SumsDoNotWrapAround() {
        FindsOffice x = new FindsOffice();
        x.find(0, what(1, 0, 9999), when(0, 0), 0);
        for (int i = 0; i < 60; i++) {
            x.sale(1, 0, 10000, 999999);
        }
        // 60 * 999999 * 9999 / 600000 is 999899.0001, and 60 * 999999 * 9999 is far beyond an int.
        same("cut from beyond an int", x.worth(0), 999899);
    }

    static void terms3SharesAreCutAndTheRest() {
        for (int percent : new int[] {0, 1, 33, 50, 99, 100}) {
            FindsOffice x = new FindsOffice();
            x.law(0, rule(0, 0, percent), 50);
            x.owner(0, 0, 2);
            x.find(0, what(1, 0, 1), when(0, 0), who(1, 0));
            x.sale(1, 0, 1, 199);
            int finders = 199 * percent / 100;
            same("finder of " + percent, x.share(0, 1), finders);
            same("owner of " + percent, x.share(0, 2), 199 - finders);
        }
    }

    static void terms3SharesOfTheGreatestWorth() {
        FindsOffice x = new FindsOffice();
        x.law(0, rule(0, 0, 99), 50);
        x.owner(0, 0, 2);
        x.find(0, what(1, 0, 1), when(0, 0), who(1, 0));
        x.sale(1, 0, 1, MOST);
        same("finder", x.share(0, 1), 990000);
        same("owner", x.share(0, 2), 10000);
    }

    static void terms3SharesOfOneThatDoesNotCount() {
        FindsOffice x = new FindsOffice();
        x.law(0, rule(0, 501, 50), 50);
        x.find(0, what(1, 500, 1), when(0, 0), who(1, 0));
        x.sale(1, 0, 1, 100);
        for (int person = 0; person < 30; person++) {
            same("person " + person, x.share(0, person), 0);
        }
    }

    // ---- Terms 5: as known on a day

    static void terms5KnownFromTheDayOfTelling() {
        FindsOffice x = on(5);
        x.find(0, what(1, 0, 1), when(0, 0), who(0, 2));
        x.law(0, 0, 1);
        same("on the day of the finding", x.size(0, 2), NONE);
        same("the day ahead of the telling", x.size(0, 4), NONE);
        same("on the day of the telling", x.size(0, 5), 1);
        no("counted the day ahead", x.counted(0, 4));
        yes("counted on the day", x.counted(0, 5));
        same("known from", x.told(0, 1), 5);
    }

    static void terms5PartedFromTheDayOfParting() {
        FindsOffice x = on(5);
        stone(x, 0, 0);
        stone(x, 0, 0);
        x.law(0, rule(0, 999, 0), 2);
        x.go(5);
        x.part(1, 0);
        same("the day ahead", x.size(0, 9), 2);
        same("on the day", x.size(0, 10), 1);
        yes("counted the day ahead", x.counted(0, 9));
        no("counted on the day", x.counted(0, 10));
    }

    static void terms5ToldAndPartedOnOneDay() {
        FindsOffice x = on(5);
        stone(x, 0, 0);
        stone(x, 0, 0);
        same("told", x.size(0, 5), 2);
        x.part(0, 1);
        same("parted on the same day", x.size(0, 5), 1);
    }

    static void terms5PartedOnDay0() {
        FindsOffice x = new FindsOffice();
        stone(x, 0, 0);
        stone(x, 0, 0);
        x.part(0, 1);
        no("they are so already", x.part(1, 0));
        x.go(1);
        same("on day 0", x.size(1, 0), 1);
        same("on day 1", x.size(1, 1), 1);
    }

    /** Two stones that count only together, known from days 1 and 2 on; a call is made on each new office. */
    private static FindsOffice twoStones() {
        FindsOffice x = on(1);
        x.law(0, rule(0, 999, 100), 2);
        x.sale(0, 0, 1, 10);
        x.museum(7, MOST);
        stone(x, 0, 0);
        x.go(1);
        stone(x, 0, 0);
        return x;
    }

    private static void askedNow(String state, FindsOffice[] x, boolean together) {
        int both = together ? 1 : 0;
        same("hoard " + state, x[0].hoard(1), 1 - both);
        same("size " + state, x[1].size(1, 2), 1 + both);
        same("counts " + state, x[2].counts(1) ? 1 : 0, both);
        same("counted " + state, x[3].counted(1, 2) ? 1 : 0, both);
        same("share " + state, x[4].share(1, 0), 10 * both);
        same("due " + state, x[5].due(0), 20 * both);
        same("settle " + state, x[6].settle(0), 20 * both);
        same("hoards " + state, x[7].count(2), 2 - both);
        same("that count " + state, x[8].count(7), 2 * both);
        same("offer " + state, x[9].offer(1), together ? 0 : NONE);
    }

    private static FindsOffice[] tenTimesTwoStones() {
        FindsOffice[] all = new FindsOffice[10];
        for (int i = 0; i < all.length; i++) {
            all[i] = twoStones();
        }
        return all;
    }

    static void terms5NowIsAskedFirst() {
        askedNow("as the first call", tenTimesTwoStones(), true);
    }

    static void terms5NowIsAskedBehindAnEarlierDay() {
        FindsOffice[] all = tenTimesTwoStones();
        for (FindsOffice x : all) {
            same("the day ahead", x.size(0, 1), 1);
        }
        askedNow("behind an earlier day", all, true);
    }

    static void terms5NowIsAskedBehindAParting() {
        FindsOffice[] all = tenTimesTwoStones();
        for (FindsOffice x : all) {
            same("together", x.size(0, 2), 2);
            x.part(0, 1);
        }
        askedNow("behind a parting", all, false);
    }

    // ---- What is refused changes nothing

    private interface Call {
        boolean isRefusedBy(FindsOffice x);
    }

    /** Something of everything on day 5, in 29 calls: a hoard of three, one find alone, one that doesn't count. */
    private static FindsOffice furnished() {
        FindsOffice x = new FindsOffice();
        x.law(0, rule(100, 500, 40), 3);
        x.law(3, rule(100, 500, 41), 3);
        x.owner(0, 0, 3);
        x.owner(55, 2, 4);
        x.index(1950, 50);
        x.index(1951, 70);
        x.sale(1, 0, 10, 1000);
        x.sale(0, 0, 10, 1000);
        x.museum(2, MOST);
        x.museum(3, 5000);
        x.go(2);
        x.sale(2, 1, 3, 400);
        x.find(where(5, 5), what(1, 900, 20), when(100, 200), who(1, 1));
        x.find(where(15, 5), what(0, 0, 10), when(150, 160), who(2, 2));
        x.go(1);
        x.find(where(20, 10), what(2, 400, 7), when(160, 300), who(1, 0));
        x.find(where(500, 500), what(1, 600, 7), when(0, 0), who(4, 3));
        x.find(where(900, 900), what(0, 0, 7), when(0, 0), who(29, 3));
        x.part(0, 2);
        x.settle(3);
        x.settle(1);
        x.offer(0);
        x.go(2);
        return x;
    }

    /** All that can be asked of the first five finds, and then what the office does with new calls. */
    private static String readAll(FindsOffice x) {
        List<Object> all = new ArrayList<>();
        for (int i = 0; i < 9; i++) {
            all.add(x.count(i));
        }
        for (int find = 0; find < 5; find++) {
            readFind(x, find, all);
        }
        for (int person = 0; person < 30; person++) {
            all.add(x.due(person));
            all.add(x.paid(person));
        }
        all.add(x.within(0, edge(1000, 1000), 0));
        all.add(x.within(0, edge(10, 10), 2));
        readOn(x, all);
        return all.toString();
    }

    private static void readFind(FindsOffice x, int find, List<Object> all) {
        all.addAll(Arrays.asList(x.hoard(find), x.counts(find), x.worth(find), x.place(find, 3)));
        for (int i = 0; i < 10; i++) {
            all.add(x.told(find, i));
        }
        for (int day = 0; day < 6; day++) {
            all.add(x.size(find, day));
            all.add(x.counted(find, day));
        }
        for (int person = 0; person < 5; person++) {
            all.add(x.share(find, person));
        }
    }

    private static void readOn(FindsOffice x, List<Object> all) {
        all.addAll(Arrays.asList(x.offer(3), x.count(8), x.spent(0), x.spent(1)));
        all.addAll(Arrays.asList(x.find(where(0, 99), what(1, 0, 5), when(0, 0), who(0, 5)), x.part(0, 1)));
        all.addAll(Arrays.asList(x.sale(0, 0, 1, 1), x.sale(1, 0, 1, 1), x.sale(2, 0, 1, 1)));
        all.addAll(Arrays.asList(x.law(0, 0, 1), x.museum(7, MOST), x.settle(3), x.settle(1)));
        for (int year = 1951; year < 1954; year++) {
            all.addAll(Arrays.asList(x.go(365), x.worth(0), x.worth(1), x.worth(2)));
        }
        all.addAll(Arrays.asList(x.go(20000), x.worth(0), x.count(2), x.count(6), x.count(7)));
    }

    private static void changesNothing(String call, FindsOffice asked, FindsOffice left, Call refused) {
        yes(call + " is refused", refused.isRefusedBy(asked));
        String got = readAll(asked);
        String want = readAll(left);
        yes(call + " changes nothing: " + got + ", due is " + want, got.equals(want));
    }

    private static void changesNothing(String call, Call refused) {
        changesNothing(call, furnished(), furnished(), refused);
    }

    static void termsRefusedGo() {
        changesNothing("go(-1)", x -> x.go(-1) == NONE);
        changesNothing("go(20001)", x -> x.go(20001) == NONE);
        changesNothing("go(2147483647)", x -> x.go(2147483647) == NONE);
        changesNothing("go(-2147483648)", x -> x.go(-2147483648) == NONE);
    }

    static void termsRefusedLaw() {
        changesNothing("day -1", x -> x.law(-1, 0, 1) == NONE);
        changesNothing("day 20001", x -> x.law(20001, 0, 1) == NONE);
        changesNothing("what -1", x -> x.law(0, -1, 1) == NONE);
        changesNothing("share 101", x -> x.law(0, 101, 1) == NONE);
        changesNothing("age 2001", x -> x.law(0, rule(2001, 0, 0), 1) == NONE);
        changesNothing("together 0", x -> x.law(0, 0, 0) == NONE);
        changesNothing("together 51", x -> x.law(0, 0, 51) == NONE);
    }

    static void termsRefusedOwner() {
        changesNothing("plot -1", x -> !x.owner(-1, 0, 9));
        changesNothing("plot 100", x -> !x.owner(100, 0, 9));
        changesNothing("day -1", x -> !x.owner(0, -1, 9));
        changesNothing("day 20001", x -> !x.owner(0, 20001, 9));
        changesNothing("person -1", x -> !x.owner(0, 0, -1));
        changesNothing("person 30", x -> !x.owner(0, 0, 30));
    }

    static void termsRefusedFind() {
        int what = what(1, 900, 20);
        int when = when(100, 200);
        changesNothing("where -1", x -> x.find(-1, what, when, 0) == NONE);
        changesNothing("where 1000000", x -> x.find(1000000, what, when, 0) == NONE);
        changesNothing("what -1", x -> x.find(5005, -1, when, 0) == NONE);
        changesNothing("metal 3", x -> x.find(5005, what(3, 0, 1), when, 0) == NONE);
        changesNothing("purity 1001", x -> x.find(5005, what(1, 1001, 1), when, 0) == NONE);
        changesNothing("when -1", x -> x.find(5005, what, -1, 0) == NONE);
        changesNothing("last year ahead of the first", x -> x.find(5005, what, when(101, 100), 0) == NONE);
        changesNothing("last year 2001", x -> x.find(5005, what, when(100, 2001), 0) == NONE);
        changesNothing("who -1", x -> x.find(5005, what, when, -1) == NONE);
        changesNothing("person 30", x -> x.find(5005, what, when, 30) == NONE);
        changesNothing("found tomorrow", x -> x.find(5005, what, when, who(0, 6)) == NONE);
    }

    static void termsRefusedPart() {
        changesNothing("a below", x -> !x.part(-1, 1));
        changesNothing("b below", x -> !x.part(1, -1));
        changesNothing("a above", x -> !x.part(5, 1));
        changesNothing("b above", x -> !x.part(1, 5));
        changesNothing("both are one", x -> !x.part(1, 1));
        changesNothing("already", x -> !x.part(0, 2));
        changesNothing("already, the other way round", x -> !x.part(2, 0));
    }

    static void termsRefusedIndex() {
        changesNothing("year 1949", x -> !x.index(1949, 7));
        changesNothing("year 2005", x -> !x.index(2005, 7));
        changesNothing("value 0", x -> !x.index(1950, 0));
        changesNothing("value 10001", x -> !x.index(1951, 10001));
        changesNothing("value -50", x -> !x.index(1951, -50));
    }

    static void termsRefusedSale() {
        changesNothing("metal -1", x -> x.sale(-1, 0, 1, 1) == NONE);
        changesNothing("metal 3", x -> x.sale(3, 0, 1, 1) == NONE);
        changesNothing("day -1", x -> x.sale(1, -1, 1, 1) == NONE);
        changesNothing("day of tomorrow", x -> x.sale(1, 6, 1, 1) == NONE);
        changesNothing("weight 0", x -> x.sale(1, 0, 0, 1) == NONE);
        changesNothing("weight 10001", x -> x.sale(1, 0, 10001, 1) == NONE);
        changesNothing("price -1", x -> x.sale(1, 0, 1, -1) == NONE);
        changesNothing("price 1000001", x -> x.sale(1, 0, 1, 1000001) == NONE);
    }

    static void termsRefusedSettle() {
        changesNothing("person -1", x -> x.settle(-1) == 0);
        changesNothing("person 30", x -> x.settle(30) == 0);
    }

    static void termsRefusedMuseum() {
        changesNothing("metals -1", x -> x.museum(-1, 0) == NONE);
        changesNothing("metals 8", x -> x.museum(8, 0) == NONE);
        changesNothing("worth -1", x -> x.museum(7, -1) == NONE);
        changesNothing("worth 1000001", x -> x.museum(7, 1000001) == NONE);
    }

    static void termsRefusedOffer() {
        changesNothing("find -1", x -> x.offer(-1) == NONE);
        changesNothing("find 5", x -> x.offer(5) == NONE);
        changesNothing("a museum has it", x -> x.offer(0) == NONE);
        changesNothing("doesn't count", x -> x.offer(4) == NONE);
        changesNothing("none takes it", x -> x.offer(2) == NONE);
    }

    static void termsAskingChangesNothing() {
        changesNothing("all that only asks", x -> {
            for (int find = -1; find < 6; find++) {
                for (int other = -1; other < 11; other++) {
                    x.size(find, other);
                    x.counted(find, other);
                }
                x.told(find, find + 4);
                x.share(find, 3);
            }
            x.due(3);
            x.within(0, edge(500, 500), 0);
            return x.place(0, 4) == NONE && x.spent(2) == NONE && x.hoard(5) == NONE;
        });
    }

    // ---- Full: the last that is taken, and the first that is refused

    private static FindsOffice fullOfLaws() {
        FindsOffice x = furnished();
        for (int i = 3; i <= 20; i++) {
            same("law " + i, x.law(10000 + i, 0, 1), i);
        }
        return x;
    }

    private static FindsOffice fullOfOwners() {
        FindsOffice x = furnished();
        for (int i = 3; i <= 100; i++) {
            yes("owner " + i, x.owner(i % 50 + 1, 3, i % 30));
        }
        return x;
    }

    private static FindsOffice fullOfFinds() {
        FindsOffice x = furnished();
        for (int i = 5; i < 50; i++) {
            same("find " + i, stone(x, 300 + i, 300), i);
        }
        return x;
    }

    private static FindsOffice fullOfSales() {
        FindsOffice x = furnished();
        for (int i = 2; i <= 58; i++) {
            same("sale " + i, x.sale(2, 5, 3, i), i);
        }
        return x;
    }

    private static FindsOffice fullOfMuseums() {
        FindsOffice x = furnished();
        for (int i = 2; i < 10; i++) {
            same("museum " + i, x.museum(i % 4, i), i);
        }
        return x;
    }

    static void termsFullRefusesAndChangesNothing() {
        changesNothing("law 21", fullOfLaws(), fullOfLaws(), x -> x.law(0, 0, 1) == NONE);
        changesNothing("owner 101", fullOfOwners(), fullOfOwners(), x -> !x.owner(0, 0, 9));
        changesNothing("find 50", fullOfFinds(), fullOfFinds(),
                x -> x.find(where(5, 5), what(1, 900, 20), when(100, 200), 0) == NONE);
        changesNothing("sale 61", fullOfSales(), fullOfSales(), x -> x.sale(1, 0, 1, 1) == NONE);
        changesNothing("sale 61 of the fullest metal", fullOfSales(), fullOfSales(), x -> x.sale(2, 0, 1, 1) == NONE);
        changesNothing("museum 10", fullOfMuseums(), fullOfMuseums(), x -> x.museum(7, MOST) == NONE);
    }

    // ---- Promise 1

    static void promise01Empty() {
        FindsOffice x = new FindsOffice();
        for (int i = 0; i < 8; i++) {
            same("count " + i, x.count(i), 0);
        }
        same("count 8", x.count(8), NONE);
        same("hoard", x.hoard(0), NONE);
        same("size", x.size(0, 0), NONE);
        no("counts", x.counts(0));
        no("counted", x.counted(0, 0));
        same("told", x.told(0, 9), NOT_TOLD);
        same("worth", x.worth(0), NONE);
        same("share", x.share(0, 0), 0);
        same("place", x.place(0, 3), NONE);
        same("within", x.within(0, edge(1000, 1000), 0), 0);
        same("offer", x.offer(0), NONE);
        same("spent", x.spent(0), NONE);
        no("part", x.part(0, 1));
    }

    static void promise01EachOfficeIsItsOwn() {
        FindsOffice x = furnished();
        FindsOffice y = new FindsOffice();
        same("now", y.count(0), 0);
        same("finds", y.count(1), 0);
        y.go(5);
        y.index(1950, 1);
        same("the other one", x.told(0, 8), 3);
        yes("stays as it was", readAll(x).equals(readAll(furnished())));
    }

    // ---- Promise 2

    static void promise02LeastAndGreatest() {
        same("0 from 0", new FindsOffice().go(0), 0);
        same("1 from 0", new FindsOffice().go(1), 1);
        same("19999 from 0", new FindsOffice().go(19999), 19999);
        same("20000 from 0", new FindsOffice().go(20000), 20000);
    }

    static void promise02TwentyThousandAtMost() {
        FindsOffice x = on(19999);
        same("0 from 19999", x.go(0), 19999);
        same("1 from 19999", x.go(1), 20000);
        same("0 from 20000", x.go(0), 20000);
        same("1 from 20000", x.go(1), 20000);
        same("20000 from 20000", x.go(20000), 20000);
        same("2 from 19999", on(19999).go(2), 20000);
        same("20000 from 1", on(1).go(20000), 20000);
        same("now", x.count(0), 20000);
    }

    static void promise02NoneForAnotherN() {
        for (int day : new int[] {0, 7, 20000}) {
            FindsOffice x = on(day);
            same("-1 from " + day, x.go(-1), NONE);
            same("20001 from " + day, x.go(20001), NONE);
            for (int far : FAR) {
                same(far + " from " + day, x.go(far), NONE);
            }
            same("now", x.count(0), day);
        }
    }

    // ---- Promise 3

    private static void lawOf(int day, int what, int together, boolean possible) {
        FindsOffice x = new FindsOffice();
        String call = "law(" + day + ", " + what + ", " + together + ")";
        same(call, x.law(day, what, together), possible ? 1 : NONE);
        same("laws behind " + call, x.count(3), possible ? 1 : 0);
    }

    static void promise03Day() {
        lawOf(0, 0, 1, true);
        lawOf(20000, 0, 1, true);
        lawOf(-1, 0, 1, false);
        lawOf(20001, 0, 1, false);
        for (int far : FAR) {
            lawOf(far, 0, 1, false);
        }
    }

    static void promise03Age() {
        lawOf(0, rule(2000, 0, 0), 1, true);
        lawOf(0, rule(2000, 999, 100), 1, true);
        lawOf(0, rule(2001, 0, 0), 1, false);
        lawOf(0, rule(2147, 0, 0), 1, false);
        lawOf(0, -1000000, 1, false);
        lawOf(0, -1000000 + 999100, 1, false);
    }

    static void promise03Parts() {
        lawOf(0, rule(0, 999, 0), 1, true);
        lawOf(0, -1000, 1, false);
        lawOf(0, -1000 + 100, 1, false);
        FindsOffice x = new FindsOffice();
        x.law(0, rule(0, 1000, 0), 50);
        x.find(where(0, 0), what(1, 0, 1), when(0, 1949), 0);
        x.find(where(100, 0), what(1, 0, 1), when(0, 1950), 0);
        yes("1000 parts can only be read as a year of AGE", x.counts(0));
        no("so AGE is 1", x.counts(1));
    }

    static void promise03Share() {
        lawOf(0, 0, 1, true);
        lawOf(0, 100, 1, true);
        lawOf(0, 101, 1, false);
        lawOf(0, 999, 1, false);
        lawOf(0, rule(2000, 999, 101), 1, false);
        lawOf(0, rule(1, 1, 999), 1, false);
        lawOf(0, -1, 1, false);
    }

    static void promise03Together() {
        lawOf(0, 0, 1, true);
        lawOf(0, 0, 50, true);
        lawOf(0, 0, 0, false);
        lawOf(0, 0, 51, false);
        lawOf(0, 0, -1, false);
        for (int far : FAR) {
            lawOf(0, 0, far, false);
        }
    }

    static void promise03FarWhat() {
        for (int far : FAR) {
            lawOf(0, far, 1, false);
        }
    }

    static void promise03TwentyCame() {
        FindsOffice x = new FindsOffice();
        for (int i = 1; i <= 20; i++) {
            same("refused ahead of " + i, x.law(0, 0, 0), NONE);
            same("law " + i, x.law(20 - i, 0, 1), i);
        }
        same("law 21", x.law(0, 0, 1), NONE);
        same("law 22", x.law(20000, rule(2000, 999, 100), 50), NONE);
        same("all", x.count(3), 20);
    }

    static void promise03TheTwentiethHolds() {
        FindsOffice x = new FindsOffice();
        stone(x, 0, 0);
        for (int i = 0; i < 19; i++) {
            x.law(0, rule(0, 999, 0), 2);
        }
        no("by the 19th", x.counts(0));
        x.law(0, rule(0, 999, 0), 1);
        yes("by the 20th", x.counts(0));
        x.law(0, rule(0, 999, 0), 2);
        yes("not by a 21st", x.counts(0));
    }

    static void promise03FromADayThatIsYetToCome() {
        FindsOffice x = new FindsOffice();
        same("told today for the last day", x.law(20000, 0, 1), 1);
        x.go(20000);
        x.find(0, what(0, 0, 1), when(0, 0), who(0, 20000));
        yes("in force then", x.counts(0));
    }

    // ---- Promise 4

    private static void ownerOf(int plot, int day, int person, boolean possible) {
        String call = "owner(" + plot + ", " + day + ", " + person + ")";
        same(call, new FindsOffice().owner(plot, day, person) ? 1 : 0, possible ? 1 : 0);
    }

    static void promise04NoSuchPlot() {
        ownerOf(0, 0, 0, true);
        ownerOf(99, 0, 0, true);
        ownerOf(-1, 0, 0, false);
        ownerOf(100, 0, 0, false);
        for (int far : FAR) {
            ownerOf(far, 0, 0, false);
        }
    }

    static void promise04NoSuchDay() {
        ownerOf(0, 20000, 0, true);
        ownerOf(0, -1, 0, false);
        ownerOf(0, 20001, 0, false);
        for (int far : FAR) {
            ownerOf(0, far, 0, false);
        }
    }

    static void promise04NoSuchPerson() {
        ownerOf(0, 0, 29, true);
        ownerOf(0, 0, -1, false);
        ownerOf(0, 0, 30, false);
        for (int far : FAR) {
            ownerOf(0, 0, far, false);
        }
    }

    static void promise04AHundredWereTold() {
        FindsOffice x = new FindsOffice();
        stone(x, 0, 0);
        for (int i = 1; i <= 100; i++) {
            no("refused ahead of " + i, x.owner(0, 0, 30));
            yes("owner " + i, x.owner(0, 0, i % 30));
            same("holds " + i, x.told(0, 8), i % 30);
        }
        no("owner 101", x.owner(0, 0, 7));
        no("owner 101 of another plot", x.owner(1, 0, 7));
        same("the 100th stays", x.told(0, 8), 10);
    }

    static void promise04FirstAndLast() {
        FindsOffice x = on(20000);
        x.find(where(999, 999), what(0, 0, 1), when(0, 0), who(0, 19999));
        x.find(where(999, 999), what(0, 0, 1), when(0, 0), who(0, 20000));
        x.owner(99, 20000, 29);
        same("the day ahead of the last", x.told(0, 8), 0);
        same("on the last day", x.told(1, 8), 29);
    }

    // ---- Promise 5

    private static void findOf(int where, int what, int when, int who, boolean possible) {
        FindsOffice x = on(100);
        String call = "find(" + where + ", " + what + ", " + when + ", " + who + ")";
        same(call, x.find(where, what, when, who), possible ? 0 : NONE);
        same("finds behind " + call, x.count(1), possible ? 1 : 0);
    }

    private static void toldBy(int what, int when, int who, int asked, int want) {
        FindsOffice x = on(100);
        x.find(0, what, when, who);
        same("told " + asked + " of (" + what + ", " + when + ", " + who + ")", x.told(0, asked), want);
    }

    static void promise05Place() {
        int when = when(0, 0);
        findOf(0, 1, when, 0, true);
        findOf(999, 1, when, 0, true);
        findOf(1000, 1, when, 0, true);
        findOf(999999, 1, when, 0, true);
        findOf(1000000, 1, when, 0, false);
        findOf(-1, 1, when, 0, false);
        findOf(-1000, 1, when, 0, false);
        for (int far : FAR) {
            findOf(far, 1, when, 0, false);
        }
    }

    static void promise05PlaceIsXTimes1000AndY() {
        int[] places = {0, 999, 1000, 1999, 999000, 999999};
        FindsOffice x = new FindsOffice();
        for (int i = 0; i < places.length; i++) {
            x.find(places[i], 1, when(0, 0), 0);
            same("place " + places[i], x.place(i, 3), places[i]);
        }
    }

    static void promise05Metal() {
        int when = when(0, 0);
        for (int metal = 0; metal < 3; metal++) {
            findOf(0, what(metal, 0, 1), when, 0, true);
            toldBy(what(metal, 1000, 9999), when, 0, 2, metal);
        }
        findOf(0, what(3, 0, 1), when, 0, false);
        findOf(0, what(21, 0, 1), when, 0, false);
        findOf(0, -100000000, when, 0, false);
        findOf(0, -100000000 + 1, when, 0, false);
    }

    static void promise05Purity() {
        int when = when(0, 0);
        findOf(0, what(1, 0, 1), when, 0, true);
        findOf(0, what(1, 1000, 1), when, 0, true);
        findOf(0, what(1, 1001, 1), when, 0, false);
        findOf(0, what(1, 9999, 1), when, 0, false);
        findOf(0, what(0, 1001, 1), when, 0, false);
        findOf(0, -10000, when, 0, false);
        toldBy(what(1, 0, 1), when, 0, 3, 0);
        toldBy(what(1, 1000, 1), when, 0, 3, 1000);
        toldBy(what(2, 999, 9999), when, 0, 3, 999);
    }

    static void promise05Weight() {
        int when = when(0, 0);
        findOf(0, 1, when, 0, true);
        findOf(0, 0, when, 0, true);
        findOf(0, 9999, when, 0, true);
        findOf(0, -1, when, 0, false);
        findOf(0, -9999, when, 0, false);
        toldBy(1, when, 0, 4, 1);
        toldBy(9999, when, 0, 4, 9999);
        toldBy(0, when, 0, 4, 10000);
        toldBy(what(1, 500, 10000), when, 0, 4, 10000);
        toldBy(10000, when, 0, 4, 10000);
        toldBy(10000, when, 0, 3, 1);
    }

    static void promise05FarWhat() {
        for (int far : FAR) {
            findOf(0, far, when(0, 0), 0, false);
        }
    }

    static void promise05Years() {
        findOf(0, 1, when(-3000, -3000), 0, true);
        findOf(0, 1, when(-3000, 2000), 0, true);
        findOf(0, 1, when(2000, 2000), 0, true);
        findOf(0, 1, when(0, 2001), 0, false);
        findOf(0, 1, when(2001, 2001), 0, false);
        findOf(0, 1, when(2000, 6999), 0, false);
        findOf(0, 1, when(6999, 6999), 0, false);
        findOf(0, 1, -1, 0, false);
        findOf(0, 1, -10000, 0, false);
        findOf(0, 1, -10000 + 1, 0, false);
        for (int far : FAR) {
            findOf(0, 1, far, 0, false);
        }
        toldBy(1, 0, 0, 5, -3000);
        toldBy(1, 0, 0, 6, -3000);
        toldBy(1, when(2000, 2000), 0, 5, 2000);
        toldBy(1, when(2000, 2000), 0, 6, 2000);
        toldBy(1, when(-1, 0), 0, 5, -1);
        toldBy(1, when(-1, 0), 0, 6, 0);
    }

    static void promise05LastYearAheadOfTheFirst() {
        findOf(0, 1, when(0, 0), 0, true);
        findOf(0, 1, when(1, 0), 0, false);
        findOf(0, 1, when(0, -1), 0, false);
        findOf(0, 1, when(0, 1), 0, true);
        findOf(0, 1, when(-2999, -3000), 0, false);
        findOf(0, 1, when(2000, 1999), 0, false);
        findOf(0, 1, when(2000, -3000), 0, false);
        findOf(0, 1, when(2001, 2000), 0, false);
    }

    static void promise05Person() {
        int when = when(0, 0);
        findOf(0, 1, when, who(0, 5), true);
        findOf(0, 1, when, who(29, 5), true);
        findOf(0, 1, when, who(30, 5), false);
        findOf(0, 1, when, who(99, 5), false);
        findOf(0, 1, when, -1, false);
        findOf(0, 1, when, -29, false);
        toldBy(1, when, who(29, 99), 7, 29);
        toldBy(1, when, who(0, 99), 7, 0);
    }

    static void promise05FoundNotAboveNow() {
        int when = when(0, 0);
        findOf(0, 1, when, who(0, 0), true);
        findOf(0, 1, when, who(0, 100), true);
        findOf(0, 1, when, who(29, 100), true);
        findOf(0, 1, when, who(0, 101), false);
        findOf(0, 1, when, who(0, 20001), false);
        findOf(0, 1, when, -100, false);
        findOf(0, 1, when, -100 + 1, false);
        for (int far : FAR) {
            findOf(0, 1, when, far, false);
        }
        toldBy(1, when, who(29, 100), 0, 100);
        toldBy(1, when, who(29, 0), 0, 0);
        FindsOffice x = on(20000);
        same("found on the last day", x.find(0, 1, when, who(29, 20000)), 0);
        same("found behind the last day", x.find(0, 1, when, who(0, 20001)), NONE);
    }

    static void promise05FiftyCame() {
        FindsOffice x = new FindsOffice();
        for (int i = 0; i < 50; i++) {
            same("refused ahead of " + i, x.find(0, 1, when(1, 0), 0), NONE);
            same("find " + i, silver(x, 15 * i, 0), i);
        }
        same("find 50", silver(x, 999, 999), NONE);
        same("find 51", x.find(0, 0, 0, 0), NONE);
        same("all", x.count(1), 50);
        same("the last one", x.place(49, 3), where(735, 0));
        same("none behind it", x.place(50, 3), NONE);
    }

    // ---- Promise 6

    static void promise06NoneSuch() {
        FindsOffice x = new FindsOffice();
        no("of no finds", x.part(0, 1));
        silver(x, 0, 0);
        no("of one find", x.part(0, 1));
        no("of one find, the other way round", x.part(1, 0));
        silver(x, 0, 0);
        no("-1 first", x.part(-1, 1));
        no("-1 second", x.part(1, -1));
        no("2 first", x.part(2, 1));
        no("2 second", x.part(1, 2));
        no("-1 and -2", x.part(-1, -2));
        no("49 and 50", x.part(49, 50));
        for (int far : FAR) {
            no(far + " first", x.part(far, 0));
            no(far + " second", x.part(0, far));
        }
        same("pairs", x.count(6), 0);
        yes("the two that are there", x.part(0, 1));
    }

    static void promise06BothAreOne() {
        FindsOffice x = new FindsOffice();
        no("none such, too", x.part(0, 0));
        silver(x, 0, 0);
        silver(x, 0, 0);
        no("0", x.part(0, 0));
        no("1", x.part(1, 1));
        no("2", x.part(2, 2));
        no("-1", x.part(-1, -1));
        same("pairs", x.count(6), 0);
    }

    static void promise06AlreadySo() {
        FindsOffice x = new FindsOffice();
        silver(x, 0, 0);
        silver(x, 0, 0);
        yes("at first", x.part(0, 1));
        no("again", x.part(0, 1));
        no("the other way round", x.part(1, 0));
        x.go(20000);
        no("much later", x.part(0, 1));
        same("pairs", x.count(6), 1);
    }

    static void promise06EveryPairOfFifty() {
        for (int a = 0; a < 50; a++) {
            FindsOffice x = new FindsOffice();
            for (int i = 0; i < 50; i++) {
                stone(x, 0, 0);
            }
            for (int b = 0; b < 50; b++) {
                same(a + " and " + b, x.part(a, b) ? 1 : 0, a == b ? 0 : 1);
            }
            same("pairs with " + a, x.count(6), 49);
            same("it is alone", x.size(a, 0), 1);
            same("the others are together", x.size(a == 0 ? 1 : 0, 0), 49);
            for (int b = 0; b < 50; b++) {
                no(b + " and " + a + " again", x.part(b, a));
            }
        }
    }

    static void promise06OnePairAlone() {
        FindsOffice x = new FindsOffice();
        for (int i = 0; i < 4; i++) {
            stone(x, 0, 0);
        }
        for (int a = 0; a < 4; a++) {
            for (int b = a + 1; b < 4; b++) {
                yes(a + " and " + b, x.part(b, a));
            }
            same("alone up to " + a, x.count(2), a < 2 ? a + 2 : 4);
        }
        same("pairs", x.count(6), 6);
    }

    // ---- Promise 7

    static void promise07NoneSuch() {
        FindsOffice x = new FindsOffice();
        same("of none", x.hoard(0), NONE);
        silver(x, 0, 0);
        same("the one", x.hoard(0), 0);
        same("1", x.hoard(1), NONE);
        same("-1", x.hoard(-1), NONE);
        same("50", x.hoard(50), NONE);
        for (int far : FAR) {
            same("" + far, x.hoard(far), NONE);
        }
    }

    static void promise07FindsThatAreOnlyToldAreInIt() {
        FindsOffice x = on(20000);
        silver(x, 0, 0);
        silver(x, 0, 0);
        same("on the day of telling", x.hoard(1), 0);
        x.part(0, 1);
        same("on the day of parting", x.hoard(1), 1);
    }

    // ---- Promise 8

    static void promise08NoSuchDay() {
        FindsOffice x = new FindsOffice();
        silver(x, 0, 0);
        same("day 0, now", x.size(0, 0), 1);
        same("day 1, tomorrow", x.size(0, 1), NONE);
        same("day -1", x.size(0, -1), NONE);
        x.go(1);
        same("day 1, now", x.size(0, 1), 1);
        same("day 2, tomorrow", x.size(0, 2), NONE);
        x.go(20000);
        same("the last day", x.size(0, 20000), 1);
        same("behind the last day", x.size(0, 20001), NONE);
        for (int far : FAR) {
            same("day " + far, x.size(0, far), NONE);
        }
    }

    static void promise08NotKnownThen() {
        FindsOffice x = on(10);
        silver(x, 0, 0);
        x.go(10);
        silver(x, 0, 0);
        same("the first, the day ahead", x.size(0, 9), NONE);
        same("the first, that day", x.size(0, 10), 1);
        same("the second, the day ahead", x.size(1, 19), NONE);
        same("the first, without the second", x.size(0, 19), 1);
        same("the second, that day", x.size(1, 20), 2);
        same("the first, with the second", x.size(0, 20), 2);
    }

    static void promise08NoSuchFind() {
        FindsOffice x = new FindsOffice();
        same("of none", x.size(0, 0), NONE);
        silver(x, 0, 0);
        same("1", x.size(1, 0), NONE);
        same("-1", x.size(-1, 0), NONE);
        for (int far : FAR) {
            same("" + far, x.size(far, 0), NONE);
            same(far + " twice", x.size(far, far), NONE);
        }
    }

    static void promise08GrowsAndShrinksDayByDay() {
        FindsOffice x = new FindsOffice();
        for (int i = 0; i < 50; i++) {
            silver(x, i, 0);
            x.go(1);
        }
        for (int i = 1; i < 50; i++) {
            x.part(0, i);
            x.go(1);
        }
        for (int day = 0; day < 50; day++) {
            same("on day " + day, x.size(0, day), day + 1);
        }
        // Joined are only those within 10: the first one is alone as soon as it is parted from ten.
        for (int day = 50; day < 99; day++) {
            same("on day " + day, x.size(0, day), day < 59 ? 50 : 1);
            same("the rest on day " + day, x.size(49, day), day < 59 ? 50 : 49);
        }
    }

    // ---- Promise 9

    static void promise09NoneSuch() {
        FindsOffice x = new FindsOffice();
        x.law(0, 0, 1);
        no("of none", x.counts(0));
        silver(x, 0, 0);
        yes("the one", x.counts(0));
        no("1", x.counts(1));
        no("-1", x.counts(-1));
        for (int far : FAR) {
            no("" + far, x.counts(far));
        }
    }

    static void promise09TheLawOfItsOwnDay() {
        FindsOffice x = on(10);
        x.law(0, rule(0, 999, 0), 50);
        x.law(5, 0, 1);
        x.find(where(0, 0), what(0, 0, 1), when(0, 0), who(0, 4));
        x.find(where(100, 0), what(0, 0, 1), when(0, 0), who(0, 5));
        no("found the day ahead, known later", x.counts(0));
        yes("found on the day", x.counts(1));
    }

    // ---- Promise 10

    static void promise10NotKnownThen() {
        FindsOffice x = on(10);
        x.law(0, 0, 1);
        silver(x, 0, 0);
        x.go(5);
        no("the day ahead", x.counted(0, 9));
        yes("that day", x.counted(0, 10));
        yes("the day behind", x.counted(0, 11));
        yes("now", x.counted(0, 15));
    }

    static void promise10NoSuchDay() {
        FindsOffice x = new FindsOffice();
        x.law(0, 0, 1);
        silver(x, 0, 0);
        yes("day 0, now", x.counted(0, 0));
        no("day 1, tomorrow", x.counted(0, 1));
        no("day -1", x.counted(0, -1));
        x.go(20000);
        yes("the last day", x.counted(0, 20000));
        no("behind the last day", x.counted(0, 20001));
        for (int far : FAR) {
            no("day " + far, x.counted(0, far));
        }
    }

    static void promise10NoSuchFind() {
        FindsOffice x = new FindsOffice();
        x.law(0, 0, 1);
        no("of none", x.counted(0, 0));
        silver(x, 0, 0);
        no("1", x.counted(1, 0));
        no("-1", x.counted(-1, 0));
        for (int far : FAR) {
            no("" + far, x.counted(far, 0));
        }
    }

    static void promise10TogetherAsKnownThen() {
        FindsOffice x = on(1);
        x.law(0, rule(0, 999, 0), 2);
        stone(x, 0, 0);
        x.go(1);
        stone(x, 0, 0);
        x.go(1);
        x.part(0, 1);
        no("one of two", x.counted(0, 1));
        yes("two of two", x.counted(0, 2));
        no("parted", x.counted(0, 3));
        no("the second isn't known", x.counted(1, 1));
    }

    static void promise10ByAllLawsThatAreTold() {
        FindsOffice x = new FindsOffice();
        silver(x, 0, 0);
        x.go(100);
        no("without a law", x.counted(0, 0));
        x.law(0, 0, 1);
        yes("by a law told much later", x.counted(0, 0));
        x.law(0, rule(0, 501, 0), 2);
        no("by one told later still", x.counted(0, 0));
    }

    // ---- Promise 11

    static void promise11OtherWhats() {
        FindsOffice x = new FindsOffice();
        silver(x, 0, 0);
        same("-1", x.told(0, -1), NOT_TOLD);
        same("10", x.told(0, 10), NOT_TOLD);
        for (int far : FAR) {
            same("" + far, x.told(0, far), NOT_TOLD);
        }
    }

    static void promise11NoneSuch() {
        FindsOffice x = new FindsOffice();
        for (int what = -1; what < 11; what++) {
            same("of none, " + what, x.told(0, what), NOT_TOLD);
        }
        silver(x, 0, 0);
        for (int what = -1; what < 11; what++) {
            same("1, " + what, x.told(1, what), NOT_TOLD);
            same("-1, " + what, x.told(-1, what), NOT_TOLD);
        }
        for (int far : FAR) {
            same("" + far, x.told(far, 0), NOT_TOLD);
        }
    }

    static void promise11MuseumNone() {
        FindsOffice x = new FindsOffice();
        x.law(0, 0, 1);
        x.museum(0, MOST);
        silver(x, 0, 0);
        same("not offered", x.told(0, 9), NONE);
        x.offer(0);
        same("none took it", x.told(0, 9), NONE);
        x.museum(7, MOST);
        x.offer(0);
        same("one took it", x.told(0, 9), 1);
        x.law(0, rule(0, 501, 0), 2);
        same("it doesn't count any more", x.counts(0) ? 1 : 0, 0);
        same("the museum keeps it", x.told(0, 9), 1);
    }

    static void promise11OwnerThen() {
        FindsOffice x = on(10);
        x.owner(0, 0, 1);
        x.owner(0, 6, 2);
        x.find(0, what(0, 0, 1), when(0, 0), who(3, 5));
        x.find(0, what(0, 0, 1), when(0, 0), who(3, 6));
        same("the day ahead", x.told(0, 8), 1);
        same("on the day", x.told(1, 8), 2);
        same("the finder stays", x.told(1, 7), 3);
    }

    // ---- Promise 12

    private static void indexOf(int year, int value, boolean possible) {
        same("index(" + year + ", " + value + ")", new FindsOffice().index(year, value) ? 1 : 0, possible ? 1 : 0);
    }

    static void promise12NoSuchYear() {
        indexOf(1950, 100, true);
        indexOf(2004, 100, true);
        indexOf(1949, 100, false);
        indexOf(2005, 100, false);
        indexOf(0, 100, false);
        indexOf(54, 100, false);
        indexOf(-1, 100, false);
        for (int far : FAR) {
            indexOf(far, 100, false);
        }
    }

    static void promise12CanNotBe() {
        indexOf(1950, 1, true);
        indexOf(1950, 10000, true);
        indexOf(1950, 0, false);
        indexOf(1950, 10001, false);
        indexOf(1950, -1, false);
        for (int far : FAR) {
            indexOf(1950, far, false);
        }
    }

    static void promise12EachYearIsItsOwn() {
        FindsOffice x = new FindsOffice();
        x.find(0, what(1, 0, 1), when(0, 0), 0);
        x.sale(1, 0, 1, 100);
        for (int year = 1951; year <= 2004; year++) {
            x.index(year, year);
        }
        for (int year = 1951; year <= 2004; year++) {
            x.go(365);
            same("in " + year, x.worth(0), year);
        }
        x.index(2004, 0);
        same("refused, so as it was", x.worth(0), 2004);
    }

    static void promise12ToldAnew() {
        FindsOffice x = new FindsOffice();
        x.find(0, what(1, 0, 1), when(0, 0), 0);
        x.sale(1, 0, 1, 100);
        x.go(365);
        x.index(1951, 10000);
        same("the greatest", x.worth(0), 10000);
        x.index(1951, 1);
        same("the least", x.worth(0), 1);
        x.index(1950, 10000);
        same("cut to nothing", x.worth(0), 0);
        x.index(1950, 1);
        same("1 by 1", x.worth(0), 100);
    }

    // ---- Promise 13

    private static void saleOf(int metal, int day, int weight, int price, boolean possible) {
        FindsOffice x = on(100);
        String call = "sale(" + metal + ", " + day + ", " + weight + ", " + price + ")";
        same(call, x.sale(metal, day, weight, price), possible ? 1 : NONE);
        same("sales behind " + call, x.count(4), possible ? 1 : 0);
    }

    static void promise13NoSuchMetal() {
        saleOf(0, 0, 1, 1, true);
        saleOf(1, 0, 1, 1, true);
        saleOf(2, 0, 1, 1, true);
        saleOf(-1, 0, 1, 1, false);
        saleOf(3, 0, 1, 1, false);
        for (int far : FAR) {
            saleOf(far, 0, 1, 1, false);
        }
    }

    static void promise13NoSuchDay() {
        saleOf(1, 0, 1, 1, true);
        saleOf(1, 100, 1, 1, true);
        saleOf(1, 101, 1, 1, false);
        saleOf(1, -1, 1, 1, false);
        for (int far : FAR) {
            saleOf(1, far, 1, 1, false);
        }
        same("on the last day", on(20000).sale(1, 20000, 1, 1), 1);
        same("behind the last day", on(20000).sale(1, 20001, 1, 1), NONE);
    }

    static void promise13NoSuchWeight() {
        saleOf(1, 0, 1, 1, true);
        saleOf(1, 0, 10000, 1, true);
        saleOf(1, 0, 0, 1, false);
        saleOf(1, 0, -1, 1, false);
        saleOf(1, 0, 10001, 1, false);
        for (int far : FAR) {
            saleOf(1, 0, far, 1, false);
        }
    }

    static void promise13NoSuchPrice() {
        saleOf(1, 0, 1, 0, true);
        saleOf(1, 0, 1, MOST, true);
        saleOf(1, 0, 1, -1, false);
        saleOf(1, 0, 1, MOST + 1, false);
        for (int far : FAR) {
            saleOf(1, 0, 1, far, false);
        }
    }

    static void promise13HowManyOfItsMetal() {
        FindsOffice x = new FindsOffice();
        for (int i = 1; i <= 20; i++) {
            for (int metal = 2; metal >= 0; metal--) {
                same("metal " + metal + ", " + i, x.sale(metal, 0, 1, 1), i);
            }
        }
    }

    static void promise13SixtyWereTold() {
        FindsOffice x = new FindsOffice();
        silver(x, 0, 0);
        for (int i = 1; i <= 60; i++) {
            same("refused ahead of " + i, x.sale(1, 0, 0, 1), NONE);
            same("sale " + i, x.sale(1, 0, 1, i), i);
        }
        same("worth by all 60", x.worth(0), 30);
        same("sale 61", x.sale(1, 0, 1, MOST), NONE);
        same("the first of another metal", x.sale(2, 0, 1, MOST), NONE);
        same("all", x.count(4), 60);
        same("worth as it was", x.worth(0), 30);
    }

    // ---- Promise 14

    static void promise14NoneSuch() {
        FindsOffice x = new FindsOffice();
        x.sale(1, 0, 1, 1);
        same("of none", x.worth(0), NONE);
        silver(x, 0, 0);
        same("the one", x.worth(0), 1);
        same("1", x.worth(1), NONE);
        same("-1", x.worth(-1), NONE);
        for (int far : FAR) {
            same("" + far, x.worth(far), NONE);
        }
    }

    static void promise14OfOneThatDoesNotCount() {
        FindsOffice x = new FindsOffice();
        x.sale(1, 0, 1, 5);
        silver(x, 0, 0);
        no("doesn't count", x.counts(0));
        same("but has a worth", x.worth(0), 5);
    }

    // ---- Promise 15

    private static FindsOffice shared() {
        FindsOffice x = new FindsOffice();
        x.law(0, rule(0, 0, 30), 50);
        x.sale(1, 0, 1, 100);
        x.owner(0, 0, 29);
        x.find(0, what(1, 0, 1), when(0, 0), who(0, 0));
        return x;
    }

    static void promise15FirstAndLastPerson() {
        FindsOffice x = shared();
        same("0, the finder", x.share(0, 0), 30);
        same("29, the owner", x.share(0, 29), 70);
        for (int person = 1; person < 29; person++) {
            same("person " + person, x.share(0, person), 0);
        }
    }

    static void promise15NoneSuch() {
        FindsOffice x = shared();
        same("find 1", x.share(1, 0), 0);
        same("find -1", x.share(-1, 0), 0);
        same("person -1", x.share(0, -1), 0);
        same("person 30", x.share(0, 30), 0);
        for (int far : FAR) {
            same("find " + far, x.share(far, 0), 0);
            same("person " + far, x.share(0, far), 0);
        }
        same("of no finds", new FindsOffice().share(0, 0), 0);
    }

    static void promise15FinderAndOwnerAreOne() {
        FindsOffice x = shared();
        x.owner(0, 0, 0);
        same("both parts", x.share(0, 0), 100);
        same("the owner that was", x.share(0, 29), 0);
    }

    static void promise15WorthNothingAndOne() {
        FindsOffice x = new FindsOffice();
        x.law(0, rule(0, 0, 99), 50);
        x.owner(0, 0, 2);
        x.find(0, what(1, 0, 1), when(0, 0), who(1, 0));
        same("finder of nothing", x.share(0, 1), 0);
        same("owner of nothing", x.share(0, 2), 0);
        x.sale(1, 0, 1, 1);
        same("finder of one, cut", x.share(0, 1), 0);
        same("owner of one, the rest", x.share(0, 2), 1);
    }

    // ---- Promise 16

    static void promise16NoneSuch() {
        FindsOffice x = shared();
        same("0", x.due(0), 30);
        same("29", x.due(29), 70);
        same("-1", x.due(-1), 0);
        same("30", x.due(30), 0);
        for (int far : FAR) {
            same("" + far, x.due(far), 0);
        }
    }

    static void promise16BelowNothing() {
        FindsOffice x = shared();
        x.settle(0);
        x.settle(29);
        x.law(0, rule(1951, 0, 0), 50);
        same("finder", x.due(0), -30);
        same("owner", x.due(29), -70);
        same("paid as it was", x.paid(29), 70);
    }

    static void promise16AllFiftyAtTheMost() {
        FindsOffice x = new FindsOffice();
        x.law(0, rule(0, 0, 100), 50);
        x.sale(2, 0, 1, MOST);
        for (int i = 0; i < 50; i++) {
            x.find(where(15 * i, 0), what(2, 0, 10000), when(0, 0), who(29, 0));
        }
        same("due", x.due(29), 50000000);
        same("settled", x.settle(29), 50000000);
        same("paid", x.paid(29), 50000000);
        x.law(0, rule(0, 0, 0), 50);
        same("to be given back", x.due(29), -50000000);
        same("the owner's", x.due(0), 50000000);
        same("given back", x.settle(29), -50000000);
        same("nothing in the end", x.paid(29), 0);
    }

    // ---- Promise 17

    static void promise17NoneSuch() {
        FindsOffice x = shared();
        same("-1", x.settle(-1), 0);
        same("30", x.settle(30), 0);
        for (int far : FAR) {
            same("" + far, x.settle(far), 0);
        }
        same("due as it was", x.due(29), 70);
        same("29", x.settle(29), 70);
        same("0", x.settle(0), 30);
    }

    static void promise17NothingIsDue() {
        FindsOffice x = shared();
        same("nobody's", x.settle(5), 0);
        x.settle(29);
        same("settled already", x.settle(29), 0);
        same("paid once", x.paid(29), 70);
        same("of a new office", new FindsOffice().settle(0), 0);
    }

    static void promise17GivenBack() {
        FindsOffice x = shared();
        x.settle(29);
        x.sale(1, 0, 1, 50);
        same("a part", x.settle(29), -17);
        same("the rest stays paid", x.paid(29), 53);
        x.law(0, rule(1951, 0, 0), 50);
        same("all", x.settle(29), -53);
        same("nothing is paid", x.paid(29), 0);
        same("nothing is due", x.due(29), 0);
    }

    // ---- Promise 18

    static void promise18NoneSuch() {
        FindsOffice x = shared();
        x.settle(0);
        x.settle(29);
        same("0", x.paid(0), 30);
        same("29", x.paid(29), 70);
        same("-1", x.paid(-1), 0);
        same("30", x.paid(30), 0);
        for (int far : FAR) {
            same("" + far, x.paid(far), 0);
        }
    }

    static void promise18NothingYet() {
        FindsOffice x = shared();
        for (int person = 0; person < 30; person++) {
            same("person " + person, x.paid(person), 0);
        }
    }

    // ---- Promise 19

    static void promise19LessItsRest() {
        int[] widths = {500, 100, 10, 1};
        int[] numbers = {0, 1, 9, 10, 99, 100, 101, 499, 500, 501, 509, 510, 599, 600, 899, 900, 989, 990, 998, 999};
        for (int rank = 0; rank < 4; rank++) {
            FindsOffice x = new FindsOffice();
            for (int i = 0; i < numbers.length; i++) {
                int px = numbers[i];
                int py = numbers[numbers.length - 1 - i];
                stone(x, px, py);
                int want = where(px - px % widths[rank], py - py % widths[rank]);
                same("rank " + rank + " of " + px + ", " + py, x.place(i, rank), want);
            }
        }
    }

    static void promise19NoSuchRank() {
        FindsOffice x = new FindsOffice();
        stone(x, 999, 999);
        same("-1", x.place(0, -1), NONE);
        same("4", x.place(0, 4), NONE);
        for (int far : FAR) {
            same("" + far, x.place(0, far), NONE);
        }
    }

    static void promise19NoSuchFind() {
        FindsOffice x = new FindsOffice();
        for (int rank = 0; rank < 4; rank++) {
            same("of none", x.place(0, rank), NONE);
        }
        stone(x, 0, 0);
        same("-1", x.place(-1, 3), NONE);
        same("1", x.place(1, 3), NONE);
        for (int far : FAR) {
            same("" + far, x.place(far, 3), NONE);
        }
    }

    // ---- Promise 20

    static void promise20AAndCCountedBAndDNot() {
        FindsOffice x = new FindsOffice();
        stone(x, 500, 600);
        for (int dx = -1; dx <= 1; dx++) {
            for (int dy = -1; dy <= 1; dy++) {
                int one = x.within(edge(500 + dx, 600 + dy), edge(501 + dx, 601 + dy), 3);
                same("the field at " + dx + ", " + dy, one, dx == 0 && dy == 0 ? 1 : 0);
            }
        }
        same("from it on", x.within(edge(500, 600), edge(1000, 1000), 3), 1);
        same("from behind it on, x", x.within(edge(501, 600), edge(1000, 1000), 3), 0);
        same("from behind it on, y", x.within(edge(500, 601), edge(1000, 1000), 3), 0);
        same("up to it, x", x.within(0, edge(500, 1000), 3), 0);
        same("up to it, y", x.within(0, edge(1000, 600), 3), 0);
        same("up to behind it", x.within(0, edge(501, 601), 3), 1);
    }

    static void promise20Numbers() {
        FindsOffice x = new FindsOffice();
        stone(x, 0, 0);
        stone(x, 999, 999);
        same("all", x.within(0, edge(1000, 1000), 0), 2);
        same("the first field", x.within(0, edge(1, 1), 3), 1);
        same("the last field", x.within(edge(999, 999), edge(1000, 1000), 3), 1);
        same("the last column", x.within(edge(999, 0), edge(1000, 1000), 3), 1);
        same("the last row", x.within(edge(0, 999), edge(1000, 1000), 3), 1);
        same("corner -1", x.within(-1, edge(1000, 1000), 3), NONE);
        same("corner -1001", x.within(-1001, edge(1000, 1000), 3), NONE);
        same("corner -500 * 1001", x.within(-500 * 1001, edge(1000, 1000), 0), NONE);
        same("other 1001 * 1001", x.within(0, 1001 * 1001, 3), NONE);
        same("other 1001, 1", x.within(0, edge(1001, 1), 3), NONE);
        same("other 1001, 1000", x.within(0, edge(1001, 1000), 3), NONE);
        same("other 1500, 1000", x.within(0, edge(1500, 1000), 0), NONE);
        same("other 1100, 1000", x.within(0, edge(1100, 1000), 1), NONE);
        same("corner 1000, 0: nothing is above", x.within(edge(1000, 0), edge(1000, 1000), 0), NONE);
        for (int far : FAR) {
            same("corner " + far, x.within(far, edge(1000, 1000), 3), NONE);
            same("other " + far, x.within(0, far, 3), NONE);
        }
    }

    static void promise20NoSuchRank() {
        FindsOffice x = new FindsOffice();
        for (int rank = 0; rank < 4; rank++) {
            same("rank " + rank, x.within(0, edge(1000, 1000), rank), 0);
        }
        same("-1", x.within(0, edge(1000, 1000), -1), NONE);
        same("4", x.within(0, edge(1000, 1000), 4), NONE);
        for (int far : FAR) {
            same("" + far, x.within(0, edge(1000, 1000), far), NONE);
        }
    }

    static void promise20AMultipleOfTheWidth() {
        int[] widths = {500, 100, 10, 1};
        FindsOffice x = new FindsOffice();
        for (int rank = 0; rank < 4; rank++) {
            for (int number : new int[] {1, 9, 10, 11, 50, 99, 100, 101, 250, 400, 499, 500}) {
                int want = number % widths[rank] == 0 ? 0 : NONE;
                int all = edge(1000, 1000);
                same("a " + number + ", rank " + rank, x.within(edge(number, 0), all, rank), want);
                same("c " + number + ", rank " + rank, x.within(edge(0, number), all, rank), want);
                same("b " + number + ", rank " + rank, x.within(0, edge(number, 1000), rank), want);
                same("d " + number + ", rank " + rank, x.within(0, edge(1000, number), rank), want);
            }
        }
    }

    static void promise20NotAbove() {
        FindsOffice x = new FindsOffice();
        stone(x, 500, 500);
        same("b one above a, d one above c", x.within(edge(500, 500), edge(501, 501), 3), 1);
        same("b is a", x.within(edge(500, 500), edge(500, 501), 3), NONE);
        same("d is c", x.within(edge(500, 500), edge(501, 500), 3), NONE);
        same("b below a", x.within(edge(501, 500), edge(500, 501), 3), NONE);
        same("d below c", x.within(edge(500, 501), edge(501, 500), 3), NONE);
        same("all are 0", x.within(0, 0, 0), NONE);
        same("all are 1000", x.within(edge(1000, 1000), edge(1000, 1000), 0), NONE);
        same("the wrong way round", x.within(edge(1000, 1000), 0, 0), NONE);
    }

    static void promise20AllFifty() {
        FindsOffice x = new FindsOffice();
        for (int i = 0; i < 50; i++) {
            stone(x, 10 * i, 10 * i);
        }
        same("all", x.within(0, edge(500, 500), 0), 50);
        same("none of them", x.within(edge(500, 500), edge(1000, 1000), 0), 0);
        same("the first ten", x.within(0, edge(100, 100), 1), 10);
    }

    // ---- Promise 21

    private static void museumOf(int metals, int worth, boolean possible) {
        FindsOffice x = new FindsOffice();
        String call = "museum(" + metals + ", " + worth + ")";
        same(call, x.museum(metals, worth), possible ? 0 : NONE);
        same("museums behind " + call, x.count(5), possible ? 1 : 0);
        same("turn behind " + call, x.count(8), possible ? 0 : NONE);
    }

    static void promise21MetalsCanNotBe() {
        museumOf(0, 5, true);
        museumOf(7, 5, true);
        museumOf(-1, 5, false);
        museumOf(8, 5, false);
        for (int far : FAR) {
            museumOf(far, 5, false);
        }
    }

    static void promise21WorthCanNotBe() {
        museumOf(7, 0, true);
        museumOf(7, MOST, true);
        museumOf(7, -1, false);
        museumOf(7, MOST + 1, false);
        for (int far : FAR) {
            museumOf(7, far, false);
        }
    }

    static void promise21TenCame() {
        FindsOffice x = new FindsOffice();
        for (int i = 0; i < 10; i++) {
            same("refused ahead of " + i, x.museum(8, 0), NONE);
            same("museum " + i, x.museum(7, 0), i);
        }
        same("museum 10", x.museum(7, 0), NONE);
        same("museum 11", x.museum(0, MOST), NONE);
        same("all", x.count(5), 10);
        same("none behind", x.spent(10), NONE);
    }

    // ---- Promise 22

    private static FindsOffice ofEachMetal(int price) {
        FindsOffice x = new FindsOffice();
        x.law(0, 0, 1);
        for (int metal = 0; metal < 3; metal++) {
            x.sale(metal, 0, 1, price);
            x.find(where(100 * metal, 0), what(metal, 0, 1), when(0, 0), 0);
        }
        return x;
    }

    static void promise22TakesItsMetal() {
        for (int metals = 0; metals < 8; metals++) {
            FindsOffice x = ofEachMetal(10);
            x.museum(metals, MOST);
            for (int metal = 0; metal < 3; metal++) {
                boolean takes = (metals & 1 << metal) != 0;
                same("metals " + metals + ", metal " + metal, x.offer(metal), takes ? 0 : NONE);
            }
            same("spent by " + metals, x.spent(0), 10 * Integer.bitCount(metals));
        }
    }

    static void promise22TakesItsWorth() {
        for (int worth : new int[] {0, 1, 500, MOST}) {
            FindsOffice x = ofEachMetal(worth);
            x.museum(7, Math.max(0, worth - 1));
            x.museum(7, worth);
            same("worth " + worth, x.offer(1), worth == 0 ? 0 : 1);
            same("paid", x.spent(worth == 0 ? 0 : 1), worth);
        }
    }

    static void promise22NoneDoes() {
        FindsOffice x = ofEachMetal(10);
        same("without any museum", x.offer(0), NONE);
        x.museum(0, MOST);
        same("none takes its metal", x.offer(0), NONE);
        x.museum(7, 9);
        same("none takes its worth", x.offer(0), NONE);
        same("nobody has it", x.told(0, 9), NONE);
        same("the turn stays", x.count(8), 0);
        same("nobody paid", x.spent(0) + x.spent(1), 0);
        x.museum(1, 10);
        same("can be offered again", x.offer(0), 2);
    }

    static void promise22NoneDoesAndTheTurnStays() {
        FindsOffice x = ofEachMetal(10);
        x.museum(1, MOST);
        x.museum(1, MOST);
        x.museum(1, MOST);
        same("the first", x.offer(0), 0);
        same("none takes silver", x.offer(1), NONE);
        same("none takes gold", x.offer(2), NONE);
        same("the turn stays", x.count(8), 1);
    }

    static void promise22NoSuchFind() {
        FindsOffice x = new FindsOffice();
        x.law(0, 0, 1);
        x.museum(7, MOST);
        same("of none", x.offer(0), NONE);
        stone(x, 0, 0);
        same("-1", x.offer(-1), NONE);
        same("1", x.offer(1), NONE);
        for (int far : FAR) {
            same("" + far, x.offer(far), NONE);
        }
        same("the turn stays", x.count(8), 0);
        same("the one", x.offer(0), 0);
    }

    static void promise22DoesNotCount() {
        FindsOffice x = new FindsOffice();
        x.law(0, rule(0, 999, 0), 2);
        x.museum(7, MOST);
        stone(x, 0, 0);
        same("alone", x.offer(0), NONE);
        stone(x, 0, 0);
        same("together", x.offer(0), 0);
        x.part(0, 1);
        same("the other, parted", x.offer(1), NONE);
    }

    static void promise22AMuseumHasIt() {
        FindsOffice x = ofEachMetal(10);
        x.museum(7, MOST);
        x.museum(7, MOST);
        same("at first", x.offer(0), 0);
        same("again", x.offer(0), NONE);
        same("it stays there", x.told(0, 9), 0);
        same("paid once", x.spent(0), 10);
        same("the turn stays", x.count(8), 1);
    }

    static void promise22OneMuseumAlone() {
        FindsOffice x = ofEachMetal(10);
        x.museum(7, MOST);
        for (int find = 0; find < 3; find++) {
            same("turn ahead of " + find, x.count(8), 0);
            same("offer " + find, x.offer(find), 0);
        }
        same("turn", x.count(8), 0);
        same("spent", x.spent(0), 30);
    }

    static void promise22RoundAndRound() {
        FindsOffice x = new FindsOffice();
        x.law(0, 0, 1);
        x.sale(0, 0, 1, 1);
        for (int i = 0; i < 10; i++) {
            x.museum(1, MOST);
        }
        for (int i = 0; i < 50; i++) {
            stone(x, 0, 0);
            same("turn ahead of " + i, x.count(8), i % 10);
            same("offer " + i, x.offer(i), i % 10);
        }
        for (int i = 0; i < 10; i++) {
            same("spent by " + i, x.spent(i), 5);
        }
    }

    static void promise22RoundPastTheEnd() {
        // All museums but one take nothing: each find goes to it, from wherever the turn begins.
        for (int taker = 0; taker < 10; taker++) {
            FindsOffice x = ofEachMetal(10);
            for (int i = 0; i < 10; i++) {
                x.museum(i == taker ? 7 : 0, MOST);
            }
            same("at first", x.offer(0), taker);
            same("turn", x.count(8), (taker + 1) % 10);
            same("once round", x.offer(1), taker);
            same("and again", x.offer(2), taker);
        }
    }

    static void promise22BegunBehindTheLatest() {
        FindsOffice x = ofEachMetal(10);
        x.museum(7, MOST);
        x.museum(0, MOST);
        x.museum(7, MOST);
        same("the first", x.offer(0), 0);
        same("turn is behind it, though that one takes nothing", x.count(8), 1);
        same("passed over", x.offer(1), 2);
        same("round", x.count(8), 0);
        same("the first again", x.offer(2), 0);
    }

    static void promise22AMuseumComesBehindTheLast() {
        FindsOffice x = ofEachMetal(10);
        x.museum(7, MOST);
        same("the only one", x.offer(0), 0);
        same("its turn again", x.count(8), 0);
        x.museum(7, MOST);
        same("the turn of the one that came", x.count(8), 1);
        same("which has it", x.offer(1), 1);
        same("round", x.count(8), 0);
    }

    static void promise22WorthOfNow() {
        FindsOffice x = ofEachMetal(10);
        x.museum(7, 10);
        x.index(1951, 110);
        x.index(1952, 50);
        x.go(365);
        same("too dear in 1951", x.offer(0), NONE);
        x.go(365);
        same("not in 1952", x.offer(0), 0);
        same("paid as of then", x.spent(0), 5);
        x.index(1952, 100);
        same("that stays", x.spent(0), 5);
    }

    // ---- Promise 23

    static void promise23NoneSuch() {
        FindsOffice x = new FindsOffice();
        same("of none", x.spent(0), NONE);
        x.museum(7, 0);
        same("nothing yet", x.spent(0), 0);
        same("-1", x.spent(-1), NONE);
        same("1", x.spent(1), NONE);
        same("10", x.spent(10), NONE);
        for (int far : FAR) {
            same("" + far, x.spent(far), NONE);
        }
    }

    static void promise23AllFiftyAtTheMost() {
        FindsOffice x = new FindsOffice();
        x.law(0, 0, 1);
        x.sale(0, 0, 1, MOST);
        x.museum(1, MOST);
        for (int i = 0; i < 50; i++) {
            stone(x, 0, 0);
            same("offer " + i, x.offer(i), 0);
            same("spent", x.spent(0), (i + 1) * MOST);
        }
    }

    // ---- Promise 24

    static void promise24NoneForOthers() {
        FindsOffice x = furnished();
        same("-1", x.count(-1), NONE);
        same("9", x.count(9), NONE);
        for (int far : FAR) {
            same("" + far, x.count(far), NONE);
        }
    }

    static void promise24TurnNoneWithoutAny() {
        FindsOffice x = new FindsOffice();
        same("without any", x.count(8), NONE);
        x.museum(8, 0);
        same("one was refused", x.count(8), NONE);
        x.museum(0, 0);
        same("one that takes nothing", x.count(8), 0);
    }

    static void promise24AllFull() {
        FindsOffice x = on(20000);
        for (int i = 0; i < 62; i++) {
            x.law(0, 0, 1);
            x.sale(0, 0, 1, 1);
            x.museum(7, MOST);
            stone(x, 15 * Math.min(i, 50), 0);
        }
        for (int i = 1; i < 50; i++) {
            x.part(0, i);
        }
        int[] want = {20000, 50, 50, 20, 60, 10, 49, 50, 0};
        for (int i = 0; i < want.length; i++) {
            same("count " + i, x.count(i), want[i]);
        }
    }

    static void promise24EveryPairParted() {
        FindsOffice x = new FindsOffice();
        for (int i = 0; i < 31; i++) {
            stone(x, 0, 0);
        }
        for (int a = 0; a < 31; a++) {
            for (int b = 0; b < a; b++) {
                x.part(a, b);
            }
        }
        same("pairs of 31", x.count(6), 465);
        same("hoards", x.count(2), 31);
    }
}
