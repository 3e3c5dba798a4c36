/** Edges of what is foretold: each sentence of part 3 of Terms, and of promises 19 to 26, that names one has a test of its own. */
public final class EdgeForetoldTest {
    private static void planIs(String text, int worth, int... doers) {
        CenturyTown x = Check.told(text);
        Check.due("plan() of " + text, x.plan(), worth);
        for (int work = 0; work < doers.length; work++) {
            Check.due("planOf(" + work + ") of " + text, x.planOf(work), doers[work]);
        }
    }

    // ---- promises 19, 20

    private static void nobodyOrNothing() {
        Check.due("plan() at first", new CenturyTown().plan(), 0);
        planIs("work 0 1 1 50", 0, Check.NONE);
        planIs("reeve", 0);
        planIs("smith;work 1 1 1 50;work 2 1 1 50", 0, Check.NONE, Check.NONE);
    }

    private static void asManyAsCanBe() {
        CenturyTown x = Check.told("smith;smith;smith;smith;smith;length 60",
            "work 0 60 1 50;work 0 60 1 50;work 0 60 1 50;work 0 60 1 50;work 0 60 1 50;work 0 60 1 50");
        Check.due("five of six", x.plan(), 250);
        int[] due = {Check.NONE, 0, 1, 2, 3, 4};
        for (int work = 0; work < 6; work++) Check.due("planOf(" + work + ")", x.planOf(work), due[work]);
        CenturyTown y = Check.told("mason;work 1 10 1 50;work 1 10 1 50;work 1 10 1 50;work 1 10 1 50;work 1 10 1 50;work 1 10 1 50");
        Check.due("six in 60 MINUTES", y.plan(), 300);
        for (int work = 0; work < 6; work++) Check.due("planOf(" + work + ")", y.planOf(work), 0);
        Check.tell(y, "length 59");
        Check.due("one less in 59", y.plan(), 250);
        Check.due("the first is left", y.planOf(0), Check.NONE);
    }

    private static void minutesThatAreLeft() {
        planIs("smith;work 0 30 1 3;work 0 30 1 4", 7, 0, 0);
        planIs("smith;work 0 30 1 3;work 0 31 1 4", 4, Check.NONE, 0);
        planIs("smith;length 1;work 0 1 1 3", 3, 0);
        planIs("smith;length 1;work 0 2 1 3", 0, Check.NONE);
        planIs("smith;length 99;work 0 60 1 3;work 0 39 1 4", 7, 0, 0);
        planIs("smith;length 98;work 0 60 1 3;work 0 39 1 4", 4, Check.NONE, 0);
        CenturyTown x = Check.told("smith;work 0 30 1 3;work 0 31 1 4;work 0 30 1 2");
        x.does(0, 2);
        Check.due("30 left", x.plan(), 5);
        Check.due("just as many", x.planOf(0), 0);
        Check.due("one too many", x.planOf(1), Check.NONE);
        x.does(0, 0);
        Check.due("none left", x.plan(), 5);
        Check.due("none left", x.planOf(0), Check.NONE);
    }

    private static void notAsleep() {
        CenturyTown x = Check.told("smith;smith;work 0 60 1 3;work 0 60 9 4");
        x.does(1, 1);
        x.oversleep(0, 1);
        x.sleep(0);
        Check.due("one ASLEEP", x.plan(), 7);
        Check.due("the other one", x.planOf(0), 1);
        x.oversleep(0, 1);
        x.oversleep(1, 1);
        Check.due("to oversleep is not yet ASLEEP", x.plan(), 7);
        x.sleep(0);
        Check.due("all ASLEEP: what HOLDS ahead", x.plan(), 4);
        Check.due("nobody", x.planOf(0), Check.NONE);
        x.sleep(0);
        Check.due("all awake", x.planOf(0), 0);
        CenturyTown least = Check.told("smith;work 0 1 1 5;length 1");
        Check.due("awake, for one MINUTE", least.plan(), 5);
        least.oversleep(0, 1);
        least.sleep(0);
        Check.due("ASLEEP, for one MINUTE", least.plan(), 0);
        Check.due("ASLEEP, for one MINUTE", least.planOf(0), Check.NONE);
    }

    private static void doneAheadOfIt() {
        CenturyTown x = Check.told("smith;work 0 60 2 50;work 0 60 1 1");
        Check.due("one of two", x.plan(), 50);
        x.does(0, 0);
        x.sleep(0);
        Check.due("one HOLDS for one more", x.plan(), 51);
        Check.due("it is left", x.planOf(0), Check.NONE);
        Check.due("the other is done", x.planOf(1), 0);
        x.sleep(0);
        Check.due("it HOLDS no more", x.plan(), 50);
        Check.due("it is done", x.planOf(0), 0);
    }

    private static void firstRow() {
        planIs("smith;smith;work 0 60 1 5", 5, 0);
        planIs("smith;smith;work 0 60 1 0", 0, Check.NONE);
        planIs("smith;work 0 60 1 5;work 0 60 1 5", 5, Check.NONE, 0);
        planIs("smith;smith;work 0 60 1 5;work 0 60 1 5", 10, 0, 1);
        planIs("reeve;smith;work 0 60 1 5;work 1 60 1 5", 10, 1, 0);
        planIs("reeve;smith;work 0 60 1 0;work 1 60 1 5", 5, Check.NONE, 0);
        planIs("smith;reeve;work 0 30 1 5;work 0 30 1 5;work 2 30 1 5", 15, 0, 0, 1);
    }

    private static void whoDoesWhichWork() {
        Check.bounds("planOf", Towns::crowded, 0, 5, Check.UNKNOWN, CenturyTown::planOf);
        Check.bounds("planOf", Towns::busy, 0, 1, Check.UNKNOWN, CenturyTown::planOf);
        Check.refused("planOf(0) of none", CenturyTown::new, x -> x.planOf(0), Check.UNKNOWN);
        Check.refused("planOf(NONE)", Towns::busy, x -> x.planOf(Check.NONE), Check.UNKNOWN);
    }

    // ---- promise 21

    private static void shortestIs(String text, int want) {
        Check.due("shortest() of " + text, Check.told(text).shortest(), want);
    }

    private static void leastAndGreatestLength() {
        shortestIs("still", 1);
        shortestIs("smith", 1);
        shortestIs("work 0 60 1 50", 1);
        shortestIs("smith;work 0 60 1 0", 1);
        shortestIs("smith;work 1 60 1 9", 1);
        shortestIs("smith;work 0 1 1 1", 1);
        shortestIs("smith;work 0 2 1 1", 2);
        shortestIs("smith;work 0 60 1 1", 60);
        shortestIs("smith;work 0 49 1 1;work 0 49 1 1", 98);
        shortestIs("smith;work 0 50 1 1;work 0 49 1 1", 99);
        shortestIs("smith;work 0 50 1 1;work 0 50 1 1", 50);
        shortestIs("smith;smith;work 0 50 1 1;work 0 49 1 1", 50);
        shortestIs("smith;mason;work 0 33 1 1;work 1 34 1 1", 34);
    }

    private static void withWhateverLength() {
        shortestIs("length 1;smith;work 0 40 1 1;work 0 20 1 1", 60);
        shortestIs("length 99;smith;work 0 40 1 1;work 0 20 1 1", 60);
    }

    private static void allBeginTheDayAnew() {
        CenturyTown x = Check.told("smith;work 0 40 1 1;work 0 20 9 1");
        x.does(0, 0);
        x.sleep(0);
        x.does(0, 0);
        x.undo();
        x.does(0, 1);
        Check.due("one HOLDS", x.shortest(), 40);
        x.undo();
        x.oversleep(0, 1);
        x.sleep(0);
        Check.due("none ASLEEP", x.shortest(), 60);
        CenturyTown y = Check.told("smith;work 0 60 1 0;work 0 50 1 7");
        y.does(0, 0);
        Check.due("MINUTES used", y.plan(), 0);
        Check.due("anew", y.shortest(), 50);
        y.sleep(0);
        y.does(0, 1);
        Check.due("all that is of WORTH HOLDS", y.shortest(), 1);
    }

    // ---- promise 22

    private static CenturyTown market() {
        return Check.told("grow 10 5;wither 20 5;grow 1 0;wither 3 9;grow 0 0");
    }

    private static void howManyDays() {
        Check.bounds("sale(.., NONE)", EdgeForetoldTest::market, 1, 9, Check.OUTSIDE, (x, n) -> x.sale(n, -1));
        Check.bounds("sale(.., 4)", EdgeForetoldTest::market, 1, 9, Check.OUTSIDE, (x, n) -> x.sale(n, 4));
        Check.bounds("sale(.., NONE) of none", CenturyTown::new, 1, 9, Check.OUTSIDE, (x, n) -> x.sale(n, -1));
    }

    private static void whichGoodOfSale() {
        Check.bounds("sale(3, ..)", EdgeForetoldTest::market, -1, 4, Check.UNKNOWN, (x, n) -> x.sale(3, n));
        Check.bounds("sale(3, ..) of none", CenturyTown::new, -1, -1, Check.UNKNOWN, (x, n) -> x.sale(3, n));
    }

    private static void saleUnknownAheadOfOutside() {
        Check.refused("sale(0, 5)", EdgeForetoldTest::market, x -> x.sale(0, 5), Check.UNKNOWN);
        Check.refused("sale(10, -2)", EdgeForetoldTest::market, x -> x.sale(10, -2), Check.UNKNOWN);
        Check.refused("sale(10, 0) of none", CenturyTown::new, x -> x.sale(10, 0), Check.UNKNOWN);
    }

    private static void saleIs(String text, int n, int most, int... days) {
        CenturyTown x = Check.told(text);
        Check.due("sale(" + n + ", NONE) of " + text, x.sale(n, -1), most);
        for (int good = 0; good < days.length; good++) {
            Check.due("sale(" + n + ", " + good + ") of " + text, x.sale(n, good), days[good]);
        }
    }

    private static void firstAndLastDay() {
        saleIs("grow 5 1", 1, 5, 0);
        saleIs("grow 5 1", 2, 6, 1);
        saleIs("grow 5 1", 9, 13, 8);
        saleIs("wither 5 1", 9, 5, 0);
        saleIs("grow 5 0", 9, 5, 0);
        saleIs("grow 99 9", 9, 171, 8);
    }

    private static void oneGoodADay() {
        saleIs("grow 5 0;grow 5 0;grow 5 0;grow 5 0;grow 5 0", 1, 5, Check.NONE, Check.NONE, Check.NONE, Check.NONE, 0);
        saleIs("grow 5 0;grow 5 0;grow 5 0;grow 5 0;grow 5 0", 4, 20, Check.NONE, 0, 1, 2, 3);
        saleIs("grow 5 0;grow 5 0;grow 5 0;grow 5 0;grow 5 0", 5, 25, 0, 1, 2, 3, 4);
        saleIs("grow 5 0;grow 5 0;grow 5 0;grow 5 0;grow 5 0", 9, 25, 0, 1, 2, 3, 4);
        saleIs("grow 0 1;grow 0 1;grow 0 1;grow 0 1;grow 0 1", 9, 30, 4, 5, 6, 7, 8);
        saleIs("grow 0 1;grow 0 1;grow 0 1;grow 0 1;grow 0 1", 5, 10, Check.NONE, 1, 2, 3, 4);
        saleIs("wither 9 1;wither 9 2", 2, 17, 1, 0);
    }

    private static void notSoldAheadOfDays() {
        saleIs("grow 0 0", 9, 0, Check.NONE);
        saleIs("wither 0 9", 9, 0, Check.NONE);
        saleIs("grow 0 1", 1, 0, Check.NONE);
        saleIs("grow 0 1", 2, 1, 1);
        saleIs("wither 3 3;grow 3 0", 2, 6, 0, 1);
        saleIs("wither 4 4;wither 5 5", 2, 5, Check.NONE, 0);
        saleIs("still", 9, 0);
    }

    private static void goodsNotSoldYet() {
        CenturyTown x = market();
        x.sell(1);
        Check.due("the others", x.sale(1, -1), 10);
        Check.due("it is not SOLD then", x.sale(1, 1), Check.NONE);
        for (int good = 0; good < 5; good++) x.sell(good);
        Check.due("all SOLD", x.sale(9, -1), 0);
        for (int good = 0; good < 5; good++) Check.due("all SOLD", x.sale(9, good), Check.NONE);
        CenturyTown y = market();
        y.sleep(0);
        Check.due("from now", y.sale(1, -1), 15);
        Check.due("of several the first row: GOOD 0 is not SOLD", y.sale(1, 0), Check.NONE);
        Check.due("of several the first row: GOOD 1 is", y.sale(1, 1), 0);
        y.sleep(0);
        Check.due("from now", y.sale(1, -1), 20);
        Check.due("from now", y.sale(1, 0), 0);
    }

    // ---- promise 23

    private static CenturyTown worlds() {
        CenturyTown x = Check.told("world 0 1 5;world 1 2 2;world 2 3 9;world 3 0 1");
        x.sign(0, 9, 1);
        return x;
    }

    private static void oddsWorld() {
        Check.bounds("odds(.., 0, 0)", EdgeForetoldTest::worlds, 0, 3, Check.UNKNOWN, (x, n) -> x.odds(n, 0, 0));
        Check.bounds("odds(.., 9, 1)", EdgeForetoldTest::worlds, 0, 3, Check.UNKNOWN, (x, n) -> x.odds(n, 9, 1));
    }

    private static void oddsBounds() {
        Check.bounds("odds(0, .., 0)", EdgeForetoldTest::worlds, 0, 9, Check.OUTSIDE, (x, n) -> x.odds(0, n, 0));
        Check.bounds("odds(3, 9, ..)", EdgeForetoldTest::worlds, 0, 1, Check.OUTSIDE, (x, n) -> x.odds(3, 9, n));
        Check.refused("odds(0, 10, 2)", EdgeForetoldTest::worlds, x -> x.odds(0, 10, 2), Check.OUTSIDE);
    }

    private static void oddsUnknownAheadOfOutside() {
        Check.refused("odds(4, 10, 0)", EdgeForetoldTest::worlds, x -> x.odds(4, 10, 0), Check.UNKNOWN);
        Check.refused("odds(-1, 0, 2)", EdgeForetoldTest::worlds, x -> x.odds(-1, 0, 2), Check.UNKNOWN);
        Check.refused("odds(4, -1, -1)", EdgeForetoldTest::worlds, x -> x.odds(4, -1, -1), Check.UNKNOWN);
    }

    private static void oddsAre(String text, int world, int t, long above, long below) {
        CenturyTown x = Check.told(text);
        Check.due("odds(" + world + ", " + t + ", 0) of " + text, x.odds(world, t, 0), above);
        Check.due("odds(" + world + ", " + t + ", 1) of " + text, x.odds(world, t, 1), below);
    }

    private static void nowAndInNineCenturies() {
        oddsAre("world 0 1 9", 0, 0, 1, 1);
        oddsAre("world 0 1 9", 1, 0, 0, 1);
        oddsAre("world 0 1 9", 0, 1, 1, 10);
        oddsAre("world 0 1 9", 1, 1, 9, 10);
        oddsAre("world 0 1 9", 0, 9, 1, 1000000000);
        oddsAre("world 0 1 9", 1, 9, 999999999, 1000000000);
        oddsAre("world 0 1 1", 0, 9, 387420489, 1000000000);
        oddsAre("world 0 1 0", 0, 9, 1, 1);
        oddsAre("world 0 1 0", 1, 9, 0, 1);
    }

    private static void lowestTerms() {
        oddsAre("world 0 1 5", 0, 1, 1, 2);
        oddsAre("world 0 1 5", 0, 9, 1, 512);
        oddsAre("world 0 1 5", 1, 9, 511, 512);
        oddsAre("world 0 1 4", 1, 1, 2, 5);
        oddsAre("world 0 1 6", 1, 1, 3, 5);
        oddsAre("world 0 1 3", 1, 1, 3, 10);
        oddsAre("world 0 1 5;world 1 0 5", 0, 9, 1, 2);
        oddsAre("world 1 0 5", 1, 9, 0, 1);
    }

    private static void oddsFromNow() {
        CenturyTown x = Check.told("world 0 3 9;world 3 0 9");
        x.sleep(0);
        Check.due("THE WORLD", x.count(5), 3);
        Check.due("it is", x.odds(3, 0, 0), 1);
        Check.due("it is not", x.odds(0, 0, 0), 0);
        Check.due("back from the last to the first", x.odds(0, 1, 0), 9);
        x.sign(3, 0, 0);
        Check.due("whatever SIGNS say", x.odds(3, 0, 0), 1);
    }

    // ---- promises 24, 25

    private static void signWorld() {
        Check.bounds("sign(.., 0, 0)", EdgeForetoldTest::worlds, 0, 3, Check.UNKNOWN, (x, n) -> x.sign(n, 0, 0));
        Check.bounds("sign(.., 9, 1)", EdgeForetoldTest::worlds, 0, 3, Check.UNKNOWN, (x, n) -> x.sign(n, 9, 1));
    }

    private static void signBounds() {
        Check.bounds("sign(0, .., 0)", EdgeForetoldTest::worlds, 0, 9, Check.OUTSIDE, (x, n) -> x.sign(0, n, 0));
        Check.bounds("sign(3, 9, ..)", EdgeForetoldTest::worlds, 0, 1, Check.OUTSIDE, (x, n) -> x.sign(3, 9, n));
        Check.refused("sign(0, 10, 2)", EdgeForetoldTest::worlds, x -> x.sign(0, 10, 2), Check.OUTSIDE);
    }

    private static void signUnknownAheadOfOutside() {
        Check.refused("sign(4, 10, 0)", EdgeForetoldTest::worlds, x -> x.sign(4, 10, 0), Check.UNKNOWN);
        Check.refused("sign(-1, 0, 2)", EdgeForetoldTest::worlds, x -> x.sign(-1, 0, 2), Check.UNKNOWN);
        Check.refused("sign(4, -1, -1)", EdgeForetoldTest::worlds, x -> x.sign(4, -1, -1), Check.UNKNOWN);
    }

    private static void sixSigns() {
        CenturyTown x = new CenturyTown();
        for (int i = 1; i <= 6; i++) {
            Check.due("a SIGN, told again too", x.sign(0, 0, 1), i);
            Check.due("SIGNS", x.count(11), i);
        }
        Check.refused("a seventh", Towns::talkative, y -> y.sign(0, 0, 1), Check.FULL);
        Check.refused("a seventh, as it was told", Towns::talkative, y -> y.sign(3, 0, 0), Check.FULL);
    }

    private static void signRefusedInOrder() {
        Check.refused("UNKNOWN ahead of FULL", Towns::talkative, x -> x.sign(4, 0, 0), Check.UNKNOWN);
        Check.refused("OUTSIDE ahead of FULL", Towns::talkative, x -> x.sign(0, 10, 0), Check.OUTSIDE);
        Check.refused("OUTSIDE ahead of FULL", Towns::talkative, x -> x.sign(0, 0, 2), Check.OUTSIDE);
    }

    private static void forgotten() {
        CenturyTown x = new CenturyTown();
        Check.due("none", x.forget(), 0);
        x.sign(0, 9, 1);
        Check.due("one", x.forget(), 1);
        Check.due("none again", x.forget(), 0);
        Check.due("as if there were none", x.likely(0, 0, 1), 4);
        CenturyTown y = Towns.talkative();
        Check.due("six", y.forget(), 6);
        Check.due("SIGNS", y.count(11), 0);
        Check.due("room again", y.sign(0, 0, 1), 1);
        Check.due("others stay", y.count(9) + y.count(10) + y.count(12), 16);
    }

    // ---- promise 26

    private static void likelyWorld() {
        Check.bounds("likely(.., 0, 0)", EdgeForetoldTest::worlds, 0, 3, Check.UNKNOWN, (x, n) -> x.likely(n, 0, 0));
        Check.bounds("likely(.., 9, 1)", EdgeForetoldTest::worlds, 0, 3, Check.UNKNOWN, (x, n) -> x.likely(n, 9, 1));
    }

    private static void likelyBounds() {
        Check.bounds("likely(0, .., 0)", EdgeForetoldTest::worlds, 0, 9, Check.OUTSIDE, (x, n) -> x.likely(0, n, 0));
        Check.bounds("likely(3, 9, ..)", EdgeForetoldTest::worlds, 0, 1, Check.OUTSIDE, (x, n) -> x.likely(3, 9, n));
        Check.refused("likely(0, 10, 2)", EdgeForetoldTest::worlds, x -> x.likely(0, 10, 2), Check.OUTSIDE);
    }

    private static void likelyUnknownAheadOfOutside() {
        Check.refused("likely(4, 10, 0)", EdgeForetoldTest::worlds, x -> x.likely(4, 10, 0), Check.UNKNOWN);
        Check.refused("likely(-1, 0, 2)", EdgeForetoldTest::worlds, x -> x.likely(-1, 0, 2), Check.UNKNOWN);
        Check.refused("likely(4, -1, -1)", EdgeForetoldTest::worlds, x -> x.likely(4, -1, -1), Check.UNKNOWN);
    }

    /** It was 0 a CENTURY ago, and is 1, but never goes so. */
    private static CenturyTown impossible() {
        CenturyTown x = Check.told("world 0 1 0;world 1 2 9");
        x.sign(0, 1, 1);
        x.sign(1, 0, 1);
        return x;
    }

    private static void signsCanNotBeSo() {
        for (int part = 0; part < 2; part++) {
            int p = part;
            Check.refused("likely(0, 0, " + p + ")", EdgeForetoldTest::impossible, x -> x.likely(0, 0, p), Check.NOT);
            Check.refused("likely(3, 9, " + p + ")", EdgeForetoldTest::impossible, x -> x.likely(3, 9, p), Check.NOT);
        }
        for (int t = 0; t < 10; t++) {
            CenturyTown x = new CenturyTown();
            for (int world = 0; world < 4; world++) x.sign(world, t, 0);
            Check.due("none of the four, " + t + " ago", x.likely(0, 5, 0), Check.NOT);
            CenturyTown y = new CenturyTown();
            y.sign(2, t, 1);
            y.sign(2, t, 0);
            Check.due("it was and was not, " + t + " ago", y.likely(2, t, 1), Check.NOT);
        }
        CenturyTown seldom = Check.told("world 0 1 1");
        seldom.sign(0, 1, 1);
        seldom.sign(1, 0, 1);
        Check.due("seldom, but it can be", seldom.likely(1, 0, 0), 1);
        seldom.forget();
        seldom.sign(1, 1, 1);
        seldom.sign(0, 0, 1);
        Check.due("it does not go back", seldom.likely(1, 0, 0), Check.NOT);
    }

    private static void likelyRefusedInOrder() {
        Check.refused("UNKNOWN ahead of NOT", EdgeForetoldTest::impossible, x -> x.likely(4, 0, 0), Check.UNKNOWN);
        Check.refused("OUTSIDE ahead of NOT", EdgeForetoldTest::impossible, x -> x.likely(0, 10, 0), Check.OUTSIDE);
        Check.refused("OUTSIDE ahead of NOT", EdgeForetoldTest::impossible, x -> x.likely(0, 0, -1), Check.OUTSIDE);
    }

    private static void likelyIs(CenturyTown x, int world, int t, long above, long below) {
        Check.due("likely(" + world + ", " + t + ", 0)", x.likely(world, t, 0), above);
        Check.due("likely(" + world + ", " + t + ", 1)", x.likely(world, t, 1), below);
    }

    private static void anyOfTheFourAlike() {
        CenturyTown x = Check.told("world 0 1 5");
        for (int world = 0; world < 4; world++) likelyIs(x, world, 9, 1, 4);
        likelyIs(x, 0, 8, 1, 8);
        likelyIs(x, 1, 8, 3, 8);
        likelyIs(x, 2, 8, 1, 4);
        likelyIs(x, 0, 0, 1, 2048);
        likelyIs(x, 1, 0, 1023, 2048);
        CenturyTown y = Check.told("world 0 1 9;world 1 2 9;world 2 3 9");
        likelyIs(y, 0, 0, 1, 4000000000L);
        likelyIs(y, 3, 9, 1, 4);
    }

    private static void signsOfTheFirstAndTheLast() {
        CenturyTown x = Check.told("world 0 1 5");
        x.sign(0, 9, 1);
        likelyIs(x, 0, 9, 1, 1);
        likelyIs(x, 1, 9, 0, 1);
        likelyIs(x, 0, 8, 1, 2);
        likelyIs(x, 0, 0, 1, 512);
        x.forget();
        x.sign(1, 0, 1);
        likelyIs(x, 1, 0, 1, 1);
        likelyIs(x, 2, 9, 0, 1);
        likelyIs(x, 1, 9, 512, 1023);
        likelyIs(x, 0, 9, 511, 1023);
        likelyIs(x, 0, 1, 1, 1023);
        x.forget();
        x.sign(1, 0, 0);
        likelyIs(x, 1, 0, 0, 1);
        likelyIs(x, 0, 0, 1, 1025);
    }

    private static void byAllSigns() {
        CenturyTown x = new CenturyTown();
        for (int i = 0; i < 5; i++) x.sign(0, i, 0);
        likelyIs(x, 2, 5, 1, 3);
        x.sign(1, 9, 0);
        likelyIs(x, 2, 5, 1, 2);
        likelyIs(x, 1, 0, 0, 1);
    }

    private static void whateverTheWorldIs() {
        CenturyTown x = Check.told("world 0 1 9");
        x.sleep(2);
        Check.due("THE WORLD", x.count(5), 1);
        likelyIs(x, 2, 0, 1, 4);
        x.sign(2, 0, 1);
        likelyIs(x, 2, 0, 1, 1);
    }

    // ---- nothing changes

    private static void foretoldChangesNothing() {
        Check.unchanged("plan()", Towns::busy, CenturyTown::plan);
        Check.unchanged("planOf(1)", Towns::busy, x -> x.planOf(1));
        Check.unchanged("shortest()", Towns::busy, CenturyTown::shortest);
        Check.unchanged("sale(9, NONE)", Towns::busy, x -> x.sale(9, -1));
        Check.unchanged("sale(9, 0)", Towns::busy, x -> x.sale(9, 0));
        Check.unchanged("odds(1, 9, 1)", Towns::busy, x -> x.odds(1, 9, 1));
        Check.unchanged("likely(1, 9, 1)", Towns::busy, x -> x.likely(1, 9, 1));
        CenturyTown x = Towns.crowded();
        for (int i = 0; i < 2; i++) {
            Check.due("plan() again", x.plan(), 51);
            for (int work = 0; work < 6; work++) Check.due("planOf() again", x.planOf(work), work == 2 ? 2 : work == 4 ? 1 : work == 5 ? 2 : Check.NONE);
            Check.due("shortest() again", x.shortest(), 9);
        }
    }

    public static void main(String[] args) {
        Check.edge("19, 20: nobody, nothing to do, no SKILL", EdgeForetoldTest::nobodyOrNothing);
        Check.edge("19, 20: five of PEOPLE, six WORKS", EdgeForetoldTest::asManyAsCanBe);
        Check.edge("Part 3: with MINUTES left", EdgeForetoldTest::minutesThatAreLeft);
        Check.edge("Part 3: PEOPLE (not ASLEEP)", EdgeForetoldTest::notAsleep);
        Check.edge("Part 3: WORKS that HOLD then (done by it, or ahead of it)", EdgeForetoldTest::doneAheadOfIt);
        Check.edge("Part 3: of several the first row (by WORKS, none ahead of PEOPLE)", EdgeForetoldTest::firstRow);
        Check.edge("20: UNKNOWN; NONE: nobody", EdgeForetoldTest::whoDoesWhichWork);
        Check.edge("21: the least LENGTH (1 .. 99)", EdgeForetoldTest::leastAndGreatestLength);
        Check.edge("Part 3: as much as with 99, whatever LENGTH is", EdgeForetoldTest::withWhateverLength);
        Check.edge("Part 3: if all begin the day anew, none ASLEEP", EdgeForetoldTest::allBeginTheDayAnew);
        Check.edge("22: n (1 .. 9); OUTSIDE", EdgeForetoldTest::howManyDays);
        Check.edge("22: (good NONE), a GOOD; UNKNOWN", EdgeForetoldTest::whichGoodOfSale);
        Check.edge("22: UNKNOWN ahead of OUTSIDE", EdgeForetoldTest::saleUnknownAheadOfOutside);
        Check.edge("Part 3: the day (0 .. n less 1)", EdgeForetoldTest::firstAndLastDay);
        Check.edge("Part 3: one GOOD a day at most", EdgeForetoldTest::oneGoodADay);
        Check.edge("Part 3: the first such row (by GOODS, not SOLD ahead of days)", EdgeForetoldTest::notSoldAheadOfDays);
        Check.edge("Part 3: GOODS not SOLD yet; NONE: it is not SOLD then", EdgeForetoldTest::goodsNotSoldYet);
        Check.edge("23: UNKNOWN", EdgeForetoldTest::oddsWorld);
        Check.edge("23: t (0 .. 9), part (0, 1); OUTSIDE", EdgeForetoldTest::oddsBounds);
        Check.edge("23: UNKNOWN ahead of OUTSIDE", EdgeForetoldTest::oddsUnknownAheadOfOutside);
        Check.edge("23: t CENTURIES (0 .. 9)", EdgeForetoldTest::nowAndInNineCenturies);
        Check.edge("23: parts are told in lowest terms", EdgeForetoldTest::lowestTerms);
        Check.edge("23: from now", EdgeForetoldTest::oddsFromNow);
        Check.edge("24: UNKNOWN", EdgeForetoldTest::signWorld);
        Check.edge("24: t (0 .. 9), was (0, 1); OUTSIDE", EdgeForetoldTest::signBounds);
        Check.edge("24: UNKNOWN ahead of OUTSIDE", EdgeForetoldTest::signUnknownAheadOfOutside);
        Check.edge("24: SIGNS, 6 at most; FULL", EdgeForetoldTest::sixSigns);
        Check.edge("24: UNKNOWN, OUTSIDE ahead of FULL", EdgeForetoldTest::signRefusedInOrder);
        Check.edge("25: there are no SIGNS: how many there were", EdgeForetoldTest::forgotten);
        Check.edge("26: UNKNOWN", EdgeForetoldTest::likelyWorld);
        Check.edge("26: t (0 .. 9), part (0, 1); OUTSIDE", EdgeForetoldTest::likelyBounds);
        Check.edge("26: UNKNOWN ahead of OUTSIDE", EdgeForetoldTest::likelyUnknownAheadOfOutside);
        Check.edge("26: NOT: SIGNS can not be so", EdgeForetoldTest::signsCanNotBeSo);
        Check.edge("26: UNKNOWN, OUTSIDE ahead of NOT", EdgeForetoldTest::likelyRefusedInOrder);
        Check.edge("Part 3: if it was any of the four alike 9 CENTURIES ago", EdgeForetoldTest::anyOfTheFourAlike);
        Check.edge("Part 3: t CENTURIES ago (0 .. 9) THE WORLD was a told one, or was not", EdgeForetoldTest::signsOfTheFirstAndTheLast);
        Check.edge("Part 3: by all SIGNS", EdgeForetoldTest::byAllSigns);
        Check.edge("Part 3: by SIGNS, whatever THE WORLD is", EdgeForetoldTest::whateverTheWorldIs);
        Check.edge("Part 3: FORETOLD from now (nothing changes)", EdgeForetoldTest::foretoldChangesNothing);
        Check.finish("EdgeForetoldTest");
    }
}
