/** For each promise of the document: ordinary inputs, the edges that it names, and wrong inputs. */
public final class FindsOfficePromises {
    private static final int NONE = -1;
    private static final int NOT_TOLD = -2147483648;
    private static final int[] WILD = {-2147483648, -2147483647, -1000000, -1, 2147483647, 2147000000};

    private static int wrong = 0;

    public static void main(String[] args) {
        newObject();
        go();
        law();
        lawOfADay();
        owner();
        ownerOfADay();
        findReadsItsTexts();
        findRefuses();
        part();
        hoardByPlace();
        hoardByTime();
        hoardByReach();
        size();
        countsByAge();
        countsByMetal();
        countsTogether();
        counted();
        told();
        index();
        sale();
        saleLimit();
        worth();
        worthIsCut();
        worthIsWide();
        share();
        due();
        settleAndPaid();
        place();
        within();
        museum();
        offer();
        offerInTurns();
        offerAgain();
        count();
        limitsOfTelling();
        System.out.println(wrong == 0 ? "all promises hold" : wrong + " answers are not as due");
        if (wrong != 0) {
            System.exit(1);
        }
    }

    private static void same(String call, long got, long want) {
        if (got != want) {
            wrong++;
            System.out.println(call + " answered " + got + ", due is " + want);
        }
    }

    private static void yes(String call, boolean got) {
        same(call, got ? 1 : 0, 1);
    }

    private static void no(String call, boolean got) {
        same(call, got ? 1 : 0, 0);
    }

    private static int where(int x, int y) {
        return x * 1000 + y;
    }

    private static int what(int metal, int purity, int weight) {
        return metal * 100000000 + purity * 10000 + weight % 10000;
    }

    private static int when(int first, int last) {
        return (first + 3000) * 10000 + last + 3000;
    }

    private static int who(int person, int day) {
        return person + 100 * day;
    }

    private static int rule(int age, int parts, int percent) {
        return age * 1000000 + parts * 1000 + percent;
    }

    private static int edge(int x, int y) {
        return x * 1001 + y;
    }

    /** A find that all but the place leaves plain: silver, half pure, of weight 10, of the year 0. */
    private static int plain(FindsOffice x, int px, int py) {
        return x.find(where(px, py), what(1, 500, 10), when(0, 0), who(0, 0));
    }

    private static void newObject() {
        FindsOffice x = new FindsOffice();
        for (int i = 0; i < 8; i++) {
            same("1 count " + i, x.count(i), 0);
        }
        same("1 turn", x.count(8), NONE);
        same("1 NONE", FindsOffice.NONE, NONE);
        for (int person = 0; person < 30; person++) {
            same("1 due " + person, x.due(person), 0);
            same("1 paid " + person, x.paid(person), 0);
        }
        x.go(5);
        same("1 another object is its own", new FindsOffice().count(0), 0);
    }

    private static void go() {
        FindsOffice x = new FindsOffice();
        same("2 stays", x.go(0), 0);
        same("2 goes", x.go(7), 7);
        same("2 goes on", x.go(8), 15);
        same("2 below", x.go(-1), NONE);
        same("2 above", x.go(20001), NONE);
        for (int wild : WILD) {
            same("2 wild " + wild, x.go(wild), NONE);
        }
        same("2 refused changes nothing", x.count(0), 15);
        same("2 up to the last", x.go(19985), 20000);
        same("2 not beyond", x.go(20000), 20000);
        same("2 at once", new FindsOffice().go(20000), 20000);
    }

    private static void law() {
        FindsOffice x = new FindsOffice();
        same("3 least", x.law(0, 0, 1), 1);
        same("3 greatest", x.law(20000, rule(2000, 999, 100), 50), 2);
        same("3 day below", x.law(-1, 0, 1), NONE);
        same("3 day above", x.law(20001, 0, 1), NONE);
        same("3 age above", x.law(0, rule(2001, 0, 0), 1), NONE);
        same("3 share above", x.law(0, rule(0, 0, 101), 1), NONE);
        same("3 together below", x.law(0, 0, 0), NONE);
        same("3 together above", x.law(0, 0, 51), NONE);
        for (int wild : WILD) {
            same("3 wild day", x.law(wild, 0, 1), NONE);
            same("3 wild what " + wild, x.law(0, wild, 1), NONE);
            same("3 wild together", x.law(0, 0, wild), NONE);
        }
        same("3 below by parts", x.law(0, -1000, 1), NONE);
        same("3 refused changes nothing", x.count(3), 2);
        for (int i = 3; i <= 20; i++) {
            same("3 law " + i, x.law(i, 0, 1), i);
        }
        same("3 beyond 20", x.law(0, 0, 1), NONE);
        same("3 all", x.count(3), 20);
    }

    private static void lawOfADay() {
        FindsOffice x = new FindsOffice();
        x.go(1000);
        int a = x.find(where(0, 0), what(1, 500, 10), when(0, 0), who(1, 99));
        int b = x.find(where(100, 0), what(1, 500, 10), when(0, 0), who(1, 100));
        int c = x.find(where(200, 0), what(1, 500, 10), when(0, 0), who(1, 300));
        no("terms 1 without a law", x.counts(b));
        x.law(100, rule(0, 501, 0), 50);
        no("terms 1 law refuses", x.counts(b));
        x.law(100, rule(0, 500, 0), 50);
        yes("terms 1 of like days the latest told", x.counts(b));
        yes("terms 1 later day, same law", x.counts(c));
        x.law(300, rule(0, 501, 0), 50);
        no("terms 1 greatest day", x.counts(c));
        x.law(200, rule(0, 0, 0), 50);
        no("terms 1 told later with a lesser day", x.counts(c));
        no("terms 1 before all laws", x.counts(a));
        same("count 7 of the laws", x.count(7), 1);
    }

    private static void owner() {
        FindsOffice x = new FindsOffice();
        yes("4 least", x.owner(0, 0, 0));
        yes("4 greatest", x.owner(99, 20000, 29));
        no("4 plot below", x.owner(-1, 0, 0));
        no("4 plot above", x.owner(100, 0, 0));
        no("4 day below", x.owner(0, -1, 0));
        no("4 day above", x.owner(0, 20001, 0));
        no("4 person below", x.owner(0, 0, -1));
        no("4 person above", x.owner(0, 0, 30));
        for (int wild : WILD) {
            no("4 wild plot", x.owner(wild, 0, 0));
            no("4 wild day", x.owner(0, wild, 0));
            no("4 wild person", x.owner(0, 0, wild));
        }
        for (int i = 2; i < 100; i++) {
            yes("4 told " + i, x.owner(5, 0, 3));
        }
        no("4 beyond 100", x.owner(5, 0, 4));
        int f = plain(x, 0, 500);
        same("4 refused changes nothing", x.told(f, 8), 3);
    }

    private static void ownerOfADay() {
        FindsOffice x = new FindsOffice();
        x.go(500);
        int f = x.find(where(399, 700), what(0, 0, 1), when(0, 0), who(9, 200));
        int g = x.find(where(400, 699), what(0, 0, 1), when(0, 0), who(9, 199));
        same("11 nobody told", x.told(f, 8), 0);
        x.owner(37, 201, 1);
        same("11 owner from a later day", x.told(f, 8), 0);
        x.owner(37, 200, 2);
        same("11 owner from that day", x.told(f, 8), 2);
        x.owner(37, 200, 3);
        same("11 of like days the latest told", x.told(f, 8), 3);
        x.owner(37, 199, 4);
        same("11 lesser day told later", x.told(f, 8), 3);
        same("11 another plot", x.told(g, 8), 0);
        x.owner(46, 0, 5);
        same("11 plot by x and y", x.told(g, 8), 5);
        x.owner(46, 100, 0);
        same("11 owner 0 again", x.told(g, 8), 0);
        x.owner(73, 200, 6);
        same("11 not x for y", x.told(f, 8), 3);
    }

    private static void findReadsItsTexts() {
        FindsOffice x = new FindsOffice();
        x.go(20000);
        same("5 least", x.find(0, 1, 0, 0), 0);
        same("5 greatest", x.find(where(999, 999), what(2, 1000, 10000), when(2000, 2000), who(29, 20000)), 1);
        same("5 other", x.find(where(12, 345), what(1, 678, 9012), when(-34, 567), who(8, 9012)), 2);
        same("5 weight 9999", x.find(0, what(0, 1000, 9999), when(-3000, 2000), 0), 3);
        int[][] want = {
            {0, 20000, 0, 0, 1, -3000, -3000, 0, 0, NONE},
            {20000, 20000, 2, 1000, 10000, 2000, 2000, 29, 0, NONE},
            {9012, 20000, 1, 678, 9012, -34, 567, 8, 0, NONE},
            {0, 20000, 0, 1000, 9999, -3000, 2000, 0, 0, NONE},
        };
        for (int f = 0; f < want.length; f++) {
            for (int i = 0; i < 10; i++) {
                same("5 find " + f + " told " + i, x.told(f, i), want[f][i]);
            }
        }
        same("5 place", x.place(2, 3), 12345);
        same("5 greatest place", x.place(1, 3), 999999);
    }

    private static void findRefuses() {
        FindsOffice x = new FindsOffice();
        x.go(100);
        int good = when(0, 0);
        same("5 place above", x.find(1000000, 1, good, 0), NONE);
        same("5 metal 3", x.find(0, what(3, 0, 1), good, 0), NONE);
        same("5 purity above", x.find(0, what(1, 1001, 1), good, 0), NONE);
        same("5 years the wrong way", x.find(0, 1, when(1, 0), 0), NONE);
        same("5 first and last year above", x.find(0, 1, when(2001, 2001), 0), NONE);
        same("5 last year above", x.find(0, 1, when(0, 2001), 0), NONE);
        same("5 person above", x.find(0, 1, good, who(30, 0)), NONE);
        same("5 person 99", x.find(0, 1, good, who(99, 0)), NONE);
        same("5 found tomorrow", x.find(0, 1, good, who(0, 101)), NONE);
        for (int wild : WILD) {
            same("5 wild where " + wild, x.find(wild, 1, good, 0), NONE);
            same("5 wild what " + wild, x.find(0, wild, good, 0), NONE);
            same("5 wild when " + wild, x.find(0, 1, wild, 0), NONE);
            same("5 wild who " + wild, x.find(0, 1, good, wild), NONE);
        }
        for (int below : new int[] {-1, -10, -100, -1000, -10000, -1000000, -100000000}) {
            same("5 where " + below, x.find(below, 1, good, 0), NONE);
            same("5 what " + below, x.find(0, below, good, 0), NONE);
            same("5 when " + below, x.find(0, 1, below, 0), NONE);
            same("5 who " + below, x.find(0, 1, good, below), NONE);
        }
        same("5 refused changes nothing", x.count(1), 0);
        same("5 found today", x.find(0, 1, good, who(29, 100)), 0);
    }

    private static void part() {
        FindsOffice x = new FindsOffice();
        no("6 no finds", x.part(0, 1));
        plain(x, 0, 0);
        plain(x, 5, 5);
        plain(x, 900, 900);
        no("6 both are one", x.part(1, 1));
        no("6 second isn't", x.part(0, 3));
        no("6 first isn't", x.part(3, 0));
        no("6 below", x.part(-1, 0));
        for (int wild : WILD) {
            no("6 wild", x.part(wild, 0));
            no("6 wild", x.part(0, wild));
            no("6 wild", x.part(wild, wild));
        }
        same("6 refused changes nothing", x.count(6), 0);
        same("6 one hoard", x.hoard(1), 0);
        yes("6 parted", x.part(1, 0));
        same("6 hoards apart", x.hoard(1), 1);
        no("6 again", x.part(1, 0));
        no("6 the other way round", x.part(0, 1));
        yes("6 those that were never joined", x.part(0, 2));
        same("6 pairs", x.count(6), 2);
    }

    private static void hoardByPlace() {
        int[][] offsets = {{10, 10, 0}, {11, 0, 1}, {0, 11, 1}, {-10, 10, 0}, {-11, 0, 1}, {0, -11, 1}, {10, -10, 0}};
        for (int[] offset : offsets) {
            FindsOffice x = new FindsOffice();
            plain(x, 500, 500);
            plain(x, 500 + offset[0], 500 + offset[1]);
            same("7 apart " + offset[0] + ", " + offset[1], x.hoard(1), offset[2]);
        }
        FindsOffice x = new FindsOffice();
        same("7 no find", x.hoard(0), NONE);
        plain(x, 0, 0);
        same("7 alone", x.hoard(0), 0);
        same("7 no such find", x.hoard(1), NONE);
        for (int wild : WILD) {
            same("7 wild", x.hoard(wild), NONE);
        }
    }

    private static void hoardByTime() {
        int[][] times = {{100, 200, 0}, {0, 99, 1}, {0, 100, 0}, {201, 300, 1}, {200, 300, 0}, {150, 160, 0}, {0, 900, 0}};
        for (int[] time : times) {
            FindsOffice x = new FindsOffice();
            x.find(0, what(0, 0, 1), when(100, 200), 0);
            x.find(0, what(0, 0, 1), when(time[0], time[1]), 0);
            same("7 time " + time[0] + " to " + time[1], x.hoard(1), time[2]);
        }
    }

    private static void hoardByReach() {
        FindsOffice x = new FindsOffice();
        plain(x, 700, 0);
        plain(x, 100, 0);
        plain(x, 120, 0);
        same("7 not yet", x.hoard(2), 2);
        same("24 hoards", x.count(2), 3);
        plain(x, 110, 0);
        same("7 over a later one", x.hoard(2), 1);
        same("7 the later one", x.hoard(3), 1);
        same("24 hoards joined", x.count(2), 2);
        x.part(1, 2);
        same("7 parted, but reached another way", x.hoard(2), 1);
        x.part(3, 1);
        same("7 least of the rest", x.hoard(3), 2);
        same("7 the other one", x.hoard(1), 1);
        same("24 hoards parted", x.count(2), 3);
    }

    private static void size() {
        FindsOffice x = new FindsOffice();
        x.go(10);
        plain(x, 0, 0);
        plain(x, 20, 0);
        x.go(10);
        plain(x, 10, 0);
        x.go(10);
        x.part(0, 2);
        x.go(10);
        same("8 before it was known", x.size(0, 9), NONE);
        same("8 from the day on", x.size(0, 10), 1);
        same("8 the day before the link", x.size(0, 19), 1);
        same("8 with the link", x.size(0, 20), 3);
        same("8 the link itself", x.size(2, 20), 3);
        same("8 the link, the day before", x.size(2, 19), NONE);
        same("8 the day before the parting", x.size(1, 29), 3);
        same("8 parted", x.size(1, 30), 2);
        same("8 parted off", x.size(0, 30), 1);
        same("8 now", x.size(2, 40), 2);
        same("8 tomorrow", x.size(2, 41), NONE);
        same("8 day below", x.size(2, -1), NONE);
        same("8 no such find", x.size(3, 40), NONE);
        same("8 find below", x.size(-1, 40), NONE);
        for (int wild : WILD) {
            same("8 wild find", x.size(wild, 40), NONE);
            same("8 wild day", x.size(0, wild), NONE);
        }
    }

    private static void countsByAge() {
        FindsOffice x = new FindsOffice();
        x.go(20000);
        x.law(0, rule(300, 0, 0), 50);
        int a = x.find(where(0, 0), what(1, 0, 1), when(1000, 1650), who(0, 364));
        int b = x.find(where(100, 0), what(1, 0, 1), when(1000, 1651), who(0, 364));
        int c = x.find(where(200, 0), what(1, 0, 1), when(1000, 1651), who(0, 365));
        yes("9 just old enough", x.counts(a));
        no("9 a year too young", x.counts(b));
        yes("9 old enough a year later", x.counts(c));
        FindsOffice z = new FindsOffice();
        z.law(0, rule(0, 0, 0), 1);
        int d = z.find(where(0, 0), what(1, 0, 1), when(1950, 1950), 0);
        int e = z.find(where(100, 0), what(1, 0, 1), when(1940, 1951), 0);
        yes("9 age 0", z.counts(d));
        no("9 later than its finding", z.counts(e));
    }

    private static void countsByMetal() {
        FindsOffice x = new FindsOffice();
        x.law(0, rule(0, 500, 0), 2);
        int none = x.find(where(0, 0), what(0, 1000, 1), when(0, 0), 0);
        int silver = x.find(where(100, 0), what(1, 500, 1), when(0, 0), 0);
        int gold = x.find(where(200, 0), what(2, 500, 1), when(0, 0), 0);
        int poor = x.find(where(300, 0), what(2, 499, 1), when(0, 0), 0);
        no("9 no metal", x.counts(none));
        yes("9 silver", x.counts(silver));
        yes("9 gold", x.counts(gold));
        no("9 not pure enough", x.counts(poor));
        same("24 that count", x.count(7), 2);
        no("9 no such find", x.counts(4));
        for (int wild : WILD) {
            no("9 wild", x.counts(wild));
        }
    }

    private static void countsTogether() {
        FindsOffice x = new FindsOffice();
        x.law(0, rule(0, 999, 0), 3);
        plain(x, 0, 0);
        plain(x, 10, 0);
        no("9 two of three", x.counts(0));
        x.find(where(20, 0), what(0, 0, 1), when(0, 0), 0);
        yes("9 three of three", x.counts(0));
        yes("9 the third too", x.counts(2));
        same("24 all three", x.count(7), 3);
        x.part(2, 1);
        no("9 parted again", x.counts(0));
        same("24 none of them", x.count(7), 0);
        FindsOffice y = new FindsOffice();
        y.law(0, rule(1950, 0, 0), 1);
        y.find(where(0, 0), what(0, 0, 1), when(0, 0), 0);
        y.find(where(0, 0), what(0, 0, 1), when(0, 1), 0);
        yes("9 together 1: always", y.counts(0));
        no("9 together 1, but too young", y.counts(1));
    }

    private static void counted() {
        FindsOffice x = new FindsOffice();
        x.go(10);
        plain(x, 0, 0);
        x.go(10);
        plain(x, 5, 0);
        x.go(10);
        x.part(0, 1);
        x.go(10);
        no("10 without a law", x.counted(0, 20));
        x.law(0, rule(0, 999, 0), 2);
        no("10 before it was known", x.counted(0, 9));
        no("10 alone", x.counted(0, 19));
        yes("10 together, by a law told later", x.counted(0, 20));
        yes("10 the day before the parting", x.counted(0, 29));
        no("10 parted", x.counted(0, 30));
        no("10 the other, before it was known", x.counted(1, 19));
        yes("10 the other", x.counted(1, 20));
        no("10 now", x.counted(0, 40));
        x.law(0, rule(0, 0, 0), 2);
        yes("10 today", x.counted(0, 40));
        no("10 still not known then", x.counted(0, 9));
        no("10 tomorrow", x.counted(0, 41));
        no("10 day below", x.counted(0, -1));
        no("10 no such find", x.counted(2, 40));
        for (int wild : WILD) {
            no("10 wild find", x.counted(wild, 40));
            no("10 wild day", x.counted(0, wild));
        }
    }

    private static void told() {
        FindsOffice x = new FindsOffice();
        same("11 no finds", x.told(0, 0), NOT_TOLD);
        x.go(30);
        x.find(where(1, 2), what(2, 3, 4), when(5, 6), who(7, 8));
        int[] want = {8, 30, 2, 3, 4, 5, 6, 7, 0, NONE};
        for (int i = 0; i < want.length; i++) {
            same("11 told " + i, x.told(0, i), want[i]);
        }
        same("11 what above", x.told(0, 10), NOT_TOLD);
        same("11 what below", x.told(0, -1), NOT_TOLD);
        same("11 find above", x.told(1, 0), NOT_TOLD);
        same("11 find below", x.told(-1, 9), NOT_TOLD);
        for (int wild : WILD) {
            same("11 wild find", x.told(wild, 0), NOT_TOLD);
            same("11 wild what", x.told(0, wild), NOT_TOLD);
        }
        x.go(5);
        same("11 known stays", x.told(0, 1), 30);
        x.law(0, 0, 1);
        x.museum(7, 1000000);
        x.museum(7, 1000000);
        x.offer(0);
        same("11 museum", x.told(0, 9), 0);
    }

    private static void index() {
        FindsOffice x = new FindsOffice();
        yes("12 first year", x.index(1950, 1));
        yes("12 last year", x.index(2004, 10000));
        no("12 year below", x.index(1949, 100));
        no("12 year above", x.index(2005, 100));
        no("12 value below", x.index(1950, 0));
        no("12 value above", x.index(1950, 10001));
        for (int wild : WILD) {
            no("12 wild year", x.index(wild, 100));
            no("12 wild value", x.index(1950, wild));
        }
        x.sale(1, 0, 1, 1);
        x.find(0, what(1, 0, 1), when(0, 0), 0);
        x.go(364);
        same("12 the year goes on", x.worth(0), 1);
        x.go(1);
        same("12 another year: 100 at first", x.worth(0), 100);
        x.go(20000);
        same("12 the last year", x.worth(0), 10000);
        x.index(1950, 100);
        same("12 told anew", x.worth(0), 100);
        x.index(2004, 50);
        same("12 cut to nothing", x.worth(0), 0);
    }

    private static void sale() {
        FindsOffice x = new FindsOffice();
        x.go(100);
        same("13 least", x.sale(0, 0, 1, 0), 1);
        same("13 greatest", x.sale(2, 100, 10000, 1000000), 1);
        same("13 again", x.sale(2, 100, 10000, 1000000), 2);
        same("13 metal below", x.sale(-1, 0, 1, 1), NONE);
        same("13 metal above", x.sale(3, 0, 1, 1), NONE);
        same("13 day below", x.sale(1, -1, 1, 1), NONE);
        same("13 tomorrow", x.sale(1, 101, 1, 1), NONE);
        same("13 weight below", x.sale(1, 0, 0, 1), NONE);
        same("13 weight above", x.sale(1, 0, 10001, 1), NONE);
        same("13 price below", x.sale(1, 0, 1, -1), NONE);
        same("13 price above", x.sale(1, 0, 1, 1000001), NONE);
        for (int wild : WILD) {
            same("13 wild metal", x.sale(wild, 0, 1, 1), NONE);
            same("13 wild day", x.sale(1, wild, 1, 1), NONE);
            same("13 wild weight", x.sale(1, 0, wild, 1), NONE);
            same("13 wild price", x.sale(1, 0, 1, wild), NONE);
        }
        same("13 refused changes nothing", x.count(4), 3);
        same("13 of its metal alone", x.sale(1, 0, 1, 1), 1);
    }

    private static void saleLimit() {
        FindsOffice x = new FindsOffice();
        for (int i = 0; i < 60; i++) {
            same("13 sale " + i, x.sale(i % 3, 0, 1, 1), i / 3 + 1);
        }
        for (int metal = 0; metal < 3; metal++) {
            same("13 beyond 60", x.sale(metal, 0, 1, 1), NONE);
        }
        same("13 all", x.count(4), 60);
    }

    private static void worth() {
        FindsOffice x = new FindsOffice();
        same("14 no finds", x.worth(0), NONE);
        plain(x, 0, 0);
        x.find(where(500, 0), what(2, 0, 3), when(0, 0), 0);
        same("14 without sales", x.worth(0), 0);
        x.sale(2, 0, 1, 1000);
        same("14 sales of another metal", x.worth(0), 0);
        x.sale(1, 0, 5, 50);
        same("14 by weight", x.worth(0), 100);
        x.sale(1, 0, 15, 10);
        same("14 all sales together", x.worth(0), 30);
        same("14 of its own metal", x.worth(1), 3000);
        same("14 no such find", x.worth(2), NONE);
        for (int wild : WILD) {
            same("14 wild", x.worth(wild), NONE);
        }
        FindsOffice y = new FindsOffice();
        y.find(0, what(0, 0, 1), when(0, 0), 0);
        y.sale(0, 0, 1, 1000000);
        same("14 the most", y.worth(0), 1000000);
        y.find(0, what(0, 0, 2), when(0, 0), 0);
        same("14 not above the most", y.worth(1), 1000000);
    }

    private static void worthIsCut() {
        FindsOffice x = new FindsOffice();
        x.index(1950, 3);
        x.index(1951, 2);
        x.find(0, what(1, 0, 7), when(0, 0), 0);
        x.sale(1, 0, 2, 5);
        x.sale(1, 0, 3, 5);
        same("14 in the same year", x.worth(0), 14);
        x.go(365);
        // 5 * 2 / 3 is cut to 3 for each sale before they are put together: 6 * 7 / 5 is cut to 8.
        same("14 each price is cut first", x.worth(0), 8);
        x.sale(1, 365, 1, 1);
        // (3 + 3 + 1) * 7 / 6 is cut to 8.
        same("14 a sale of this year", x.worth(0), 8);
    }

    private static void worthIsWide() {
        FindsOffice x = new FindsOffice();
        x.find(0, what(2, 1000, 10000), when(0, 0), 0);
        for (int i = 0; i < 60; i++) {
            x.sale(2, 0, 10000, 1000000);
        }
        same("14 beyond int on the way", x.worth(0), 1000000);
        x.index(1950, 1);
        x.index(1951, 10000);
        x.go(365);
        same("14 the widest", x.worth(0), 1000000);
        x.index(1950, 10000);
        x.index(1951, 1);
        same("14 led down", x.worth(0), 100);
        FindsOffice y = new FindsOffice();
        y.find(0, what(2, 1000, 10000), when(0, 0), 0);
        y.sale(2, 0, 9999, 999999);
        same("14 wide, and not at the most", y.worth(0), 1000000);
        y.sale(2, 0, 10000, 0);
        same("14 wide, and halved", y.worth(0), 500024);
    }

    private static void share() {
        FindsOffice x = new FindsOffice();
        x.go(20);
        x.sale(1, 0, 1, 33);
        x.owner(0, 0, 2);
        x.owner(0, 11, 4);
        x.find(0, what(1, 500, 3), when(0, 0), who(1, 10));
        same("15 doesn't count", x.share(0, 1), 0);
        x.law(0, rule(0, 500, 35), 50);
        x.law(11, rule(0, 500, 100), 50);
        same("15 finder, cut", x.share(0, 1), 34);
        same("15 owner then, the rest", x.share(0, 2), 65);
        same("15 owner later", x.share(0, 4), 0);
        same("15 nobody else", x.share(0, 0), 0);
        same("15 no such find", x.share(1, 1), 0);
        same("15 find below", x.share(-1, 1), 0);
        same("15 person below", x.share(0, -1), 0);
        same("15 person above", x.share(0, 30), 0);
        for (int wild : WILD) {
            same("15 wild find", x.share(wild, 1), 0);
            same("15 wild person", x.share(0, wild), 0);
        }
        x.owner(0, 10, 1);
        same("15 finder and owner", x.share(0, 1), 99);
        same("15 owner no more", x.share(0, 2), 0);
        x.find(where(500, 500), what(1, 499, 3), when(0, 0), who(1, 10));
        same("15 one that doesn't count", x.share(1, 1), 0);
        same("15 of that nobody", x.share(1, 0), 0);
        x.find(where(700, 500), what(1, 500, 1), when(0, 0), who(29, 11));
        same("15 the last person, all", x.share(2, 29), 33);
        same("15 nothing left for person 0", x.share(2, 0), 0);
    }

    private static void due() {
        FindsOffice x = new FindsOffice();
        x.sale(1, 0, 1, 10);
        x.law(0, rule(0, 999, 40), 2);
        x.owner(0, 0, 3);
        x.find(0, what(1, 0, 10), when(0, 0), who(2, 0));
        same("16 doesn't count yet", x.due(2), 0);
        x.find(where(1, 1), what(1, 0, 20), when(0, 0), who(2, 0));
        same("16 finder of both", x.due(2), 120);
        same("16 owner of both", x.due(3), 180);
        same("17 settled", x.settle(3), 180);
        same("16 nothing more", x.due(3), 0);
        same("18 paid", x.paid(3), 180);
        x.part(0, 1);
        same("16 below 0", x.due(3), -180);
        same("16 never paid", x.due(2), 0);
        same("16 person below", x.due(-1), 0);
        same("16 person above", x.due(30), 0);
        for (int wild : WILD) {
            same("16 wild", x.due(wild), 0);
        }
    }

    private static void settleAndPaid() {
        FindsOffice x = new FindsOffice();
        x.sale(2, 0, 1, 10);
        x.law(0, rule(0, 0, 100), 50);
        x.find(0, what(2, 0, 10), when(0, 0), who(29, 0));
        same("17 first", x.settle(29), 100);
        same("17 again", x.settle(29), 0);
        x.sale(2, 0, 1, 20);
        same("16 more is due", x.due(29), 50);
        same("18 until settled", x.paid(29), 100);
        same("17 the rest", x.settle(29), 50);
        same("18 together", x.paid(29), 150);
        x.law(0, rule(0, 0, 0), 50);
        same("17 given back", x.settle(29), -150);
        same("18 nothing in the end", x.paid(29), 0);
        same("18 of the owner nothing yet", x.paid(0), 0);
        same("17 the owner", x.settle(0), 150);
        same("17 person below", x.settle(-1), 0);
        same("17 person above", x.settle(30), 0);
        same("18 person below", x.paid(-1), 0);
        same("18 person above", x.paid(30), 0);
        for (int wild : WILD) {
            same("17 wild", x.settle(wild), 0);
            same("18 wild", x.paid(wild), 0);
        }
    }

    private static void place() {
        FindsOffice x = new FindsOffice();
        same("19 no finds", x.place(0, 0), NONE);
        plain(x, 987, 499);
        int[] want = {500000, 900400, 980490, 987499};
        for (int rank = 0; rank < 4; rank++) {
            same("19 rank " + rank, x.place(0, rank), want[rank]);
        }
        plain(x, 500, 100);
        int[] edges = {500000, 500100, 500100, 500100};
        for (int rank = 0; rank < 4; rank++) {
            same("19 on the edge, rank " + rank, x.place(1, rank), edges[rank]);
        }
        same("19 rank below", x.place(0, -1), NONE);
        same("19 rank above", x.place(0, 4), NONE);
        same("19 find below", x.place(-1, 0), NONE);
        same("19 find above", x.place(2, 0), NONE);
        for (int wild : WILD) {
            same("19 wild find", x.place(wild, 0), NONE);
            same("19 wild rank", x.place(0, wild), NONE);
        }
    }

    private static void within() {
        FindsOffice x = new FindsOffice();
        plain(x, 0, 0);
        plain(x, 999, 999);
        plain(x, 100, 200);
        plain(x, 100, 200);
        same("20 all", x.within(edge(0, 0), edge(1000, 1000), 0), 4);
        same("20 from a and c on", x.within(edge(100, 200), edge(101, 201), 3), 2);
        same("20 not up to b", x.within(edge(99, 200), edge(100, 201), 3), 0);
        same("20 not up to d", x.within(edge(100, 199), edge(101, 200), 3), 0);
        same("20 behind a", x.within(edge(101, 200), edge(102, 201), 3), 0);
        same("20 behind c", x.within(edge(100, 201), edge(101, 202), 3), 0);
        same("20 the last corner", x.within(edge(999, 999), edge(1000, 1000), 3), 1);
        same("20 tens", x.within(edge(100, 200), edge(110, 210), 2), 2);
        same("20 hundreds", x.within(edge(0, 200), edge(200, 300), 1), 2);
        same("20 five hundreds", x.within(edge(500, 500), edge(1000, 1000), 0), 1);
        int[] finer = {100, 10, 1};
        for (int rank = 0; rank < 3; rank++) {
            int step = finer[rank];
            same("20 a too fine, " + rank, x.within(edge(step, 0), edge(1000, 1000), rank), NONE);
            same("20 c too fine, " + rank, x.within(edge(0, step), edge(1000, 1000), rank), NONE);
            same("20 b too fine, " + rank, x.within(0, edge(500 + step, 1000), rank), NONE);
            same("20 d too fine, " + rank, x.within(0, edge(1000, 500 + step), rank), NONE);
        }
        same("20 b not above a", x.within(edge(5, 0), edge(5, 9), 3), NONE);
        same("20 d not above c", x.within(edge(0, 5), edge(9, 5), 3), NONE);
        same("20 the wrong way round", x.within(edge(1000, 1000), 0, 0), NONE);
        same("20 corner below", x.within(-1, edge(1000, 1000), 3), NONE);
        same("20 other above", x.within(0, 1002001, 3), NONE);
        same("20 other above, a whole row", x.within(0, edge(1001, 1000), 3), NONE);
        same("20 rank below", x.within(0, edge(1000, 1000), -1), NONE);
        same("20 rank above", x.within(0, edge(1000, 1000), 4), NONE);
        for (int wild : WILD) {
            same("20 wild corner", x.within(wild, edge(1000, 1000), 3), NONE);
            same("20 wild other", x.within(0, wild, 3), NONE);
            same("20 wild rank", x.within(0, edge(1000, 1000), wild), NONE);
        }
    }

    private static void museum() {
        FindsOffice x = new FindsOffice();
        same("21 metals below", x.museum(-1, 0), NONE);
        same("21 metals above", x.museum(8, 0), NONE);
        same("21 worth below", x.museum(0, -1), NONE);
        same("21 worth above", x.museum(0, 1000001), NONE);
        for (int wild : WILD) {
            same("21 wild metals", x.museum(wild, 0), NONE);
            same("21 wild worth", x.museum(0, wild), NONE);
        }
        same("21 refused changes nothing", x.count(5), 0);
        same("21 least", x.museum(0, 0), 0);
        same("21 greatest", x.museum(7, 1000000), 1);
        for (int i = 2; i < 10; i++) {
            same("21 museum " + i, x.museum(i % 8, i), i);
        }
        same("21 beyond 10", x.museum(7, 0), NONE);
        same("21 all", x.count(5), 10);
        same("23 the last one", x.spent(9), 0);
        same("23 beyond", x.spent(10), NONE);
    }

    private static void offer() {
        FindsOffice x = new FindsOffice();
        x.law(0, rule(0, 500, 0), 50);
        x.sale(1, 0, 1, 10);
        plain(x, 0, 0);
        x.find(where(500, 500), what(1, 499, 10), when(0, 0), 0);
        same("22 no museums", x.offer(0), NONE);
        x.museum(5, 1000000);
        same("22 not its metal", x.offer(0), NONE);
        x.museum(2, 99);
        same("22 too dear", x.offer(0), NONE);
        same("22 refused changes nothing", x.told(0, 9), NONE);
        x.museum(2, 100);
        same("22 just dear enough", x.offer(0), 2);
        same("22 told so", x.told(0, 9), 2);
        same("23 paid its worth", x.spent(2), 100);
        same("23 the others nothing", x.spent(0) + x.spent(1), 0);
        same("22 a museum has it", x.offer(0), NONE);
        same("22 doesn't count", x.offer(1), NONE);
        same("22 no such find", x.offer(2), NONE);
        same("22 find below", x.offer(-1), NONE);
        for (int wild : WILD) {
            same("22 wild", x.offer(wild), NONE);
            same("23 wild", x.spent(wild), NONE);
        }
        same("23 museum below", x.spent(-1), NONE);
        same("23 museum above", x.spent(3), NONE);
        x.sale(1, 0, 1, 1000);
        same("23 what was paid stays", x.spent(2), 100);
        x.part(0, 1);
        same("22 what is had stays", x.told(0, 9), 2);
    }

    private static void offerInTurns() {
        FindsOffice x = new FindsOffice();
        x.law(0, 0, 1);
        for (int i = 0; i < 8; i++) {
            x.find(where(100 * i, 0), what(i == 3 ? 2 : 0, 0, 1), when(0, 0), 0);
        }
        x.museum(1, 0);
        same("24 turn at first", x.count(8), 0);
        x.museum(1, 0);
        x.museum(5, 0);
        same("24 turn still", x.count(8), 0);
        same("22 first", x.offer(0), 0);
        same("24 turn", x.count(8), 1);
        same("22 second", x.offer(1), 1);
        same("22 third", x.offer(2), 2);
        same("24 round", x.count(8), 0);
        x.museum(0, 0);
        same("24 another came behind the latest", x.count(8), 3);
        same("22 passes over, and round", x.offer(3), 2);
        same("22 round to the first", x.offer(4), 0);
        same("22 and on", x.offer(5), 1);
        same("24 turn in the midst", x.count(8), 2);
    }

    private static void offerAgain() {
        FindsOffice x = new FindsOffice();
        x.law(0, 0, 1);
        x.sale(0, 0, 1, 50);
        x.find(0, what(0, 0, 1), when(0, 0), 0);
        x.find(0, what(0, 0, 1), when(0, 0), 0);
        x.museum(1, 30);
        x.museum(1, 20);
        same("22 to nobody", x.offer(0), NONE);
        same("24 the turn stays", x.count(8), 0);
        x.index(1951, 50);
        x.go(365);
        same("22 again, by its worth now", x.offer(0), 0);
        same("23 its worth now", x.spent(0), 25);
        same("22 none but the one whose turn it was", x.offer(1), 0);
        same("23 together", x.spent(0), 50);
        same("24 behind it", x.count(8), 1);
    }

    private static void count() {
        FindsOffice x = new FindsOffice();
        x.go(42);
        for (int i = 0; i < 7; i++) {
            plain(x, 100 * i, 0);
        }
        plain(x, 605, 0);
        x.find(where(300, 300), what(0, 0, 1), when(0, 0), 0);
        x.law(0, 0, 50);
        x.law(50, 0, 50);
        for (int i = 0; i < 4; i++) {
            x.sale(i % 3, 0, 1, 1);
        }
        for (int i = 0; i < 5; i++) {
            x.museum(7, 1000000);
        }
        for (int i = 1; i < 4; i++) {
            x.part(0, i);
        }
        x.offer(0);
        int[] want = {42, 9, 8, 2, 4, 5, 3, 8, 1};
        for (int i = 0; i < want.length; i++) {
            same("24 count " + i, x.count(i), want[i]);
        }
        same("24 below", x.count(-1), NONE);
        same("24 above", x.count(9), NONE);
        for (int wild : WILD) {
            same("24 wild", x.count(wild), NONE);
        }
    }

    private static void limitsOfTelling() {
        FindsOffice x = new FindsOffice();
        x.law(0, rule(0, 999, 0), 50);
        for (int i = 0; i < 50; i++) {
            same("5 find " + i, plain(x, 10 * i, 0), i);
            same("8 it grows", x.size(0, 0), i + 1);
            same("24 fifty together", x.count(7), i == 49 ? 50 : 0);
        }
        same("5 beyond 50", plain(x, 500, 0), NONE);
        same("24 fifty", x.count(1), 50);
        same("7 from end to end", x.hoard(49), 0);
        for (int b = 2; b < 50; b++) {
            yes("6 all with the first", x.part(b, 0));
        }
        yes("6 the last pair", x.part(48, 49));
        no("6 the last pair again", x.part(49, 48));
        same("6 pairs", x.count(6), 49);
        same("7 the last alone", x.hoard(49), 49);
        same("7 the rest", x.hoard(48), 0);
    }
}
