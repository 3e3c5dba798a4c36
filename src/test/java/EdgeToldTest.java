/** Edges of what is told: each sentence of promises 6 to 10 and 35, and of KINDS, that names one has a test of its own. */
public final class EdgeToldTest {
    /** Five of PEOPLE, of all KINDS; three WORKS, one for each SKILL; both KINDS of GOODS. */
    private static CenturyTown five() {
        return Check.told(Check.FIVE + ";likes 0 4;likes 4 0;likes 4 3", "work 0 60 1 1;work 1 60 1 1;work 2 60 9 1",
            "grow 5 0;wither 5 0;grow 5 9;wither 5 9;grow 0 1");
    }

    // ---- promise 6

    private static void whichOne() {
        Check.bounds("one(.., 0)", EdgeToldTest::five, 0, 4, Check.UNKNOWN, (x, n) -> x.one(n, 0));
        Check.bounds("one(.., 5)", Towns::busy, 0, 2, Check.UNKNOWN, (x, n) -> x.one(n, 5));
        Check.refused("one(0, 0) of nobody", CenturyTown::new, x -> x.one(0, 0), Check.UNKNOWN);
    }

    private static void whatOfOne() {
        Check.bounds("one(0, ..)", EdgeToldTest::five, 0, 5, Check.OUTSIDE, (x, n) -> x.one(0, n));
        Check.bounds("one(4, ..)", EdgeToldTest::five, 0, 5, Check.OUTSIDE, (x, n) -> x.one(4, n));
    }

    private static void oneUnknownAheadOfOutside() {
        Check.refused("one(5, 6)", EdgeToldTest::five, x -> x.one(5, 6), Check.UNKNOWN);
        Check.refused("one(-1, -1)", EdgeToldTest::five, x -> x.one(-1, -1), Check.UNKNOWN);
        Check.refused("one(0, 6) of nobody", CenturyTown::new, x -> x.one(0, 6), Check.UNKNOWN);
    }

    private static void kinds() {
        CenturyTown x = five();
        int[] due = {0, 1, 2, 3, 0};
        for (int one = 0; one < 5; one++) Check.due("KIND of " + one, x.one(one, 0), due[one]);
    }

    private static void likings() {
        CenturyTown x = five();
        int[] due = {16, 0, 0, 0, 9};
        for (int one = 0; one < 5; one++) Check.due("LIKES of " + one, x.one(one, 1), due[one]);
        Check.tell(x, "likes 0 4;likes 0 1;likes 0 2;likes 0 3");
        Check.due("all others, one told twice", x.one(0, 1), 30);
    }

    private static void minutesOfOne() {
        CenturyTown x = Check.told("smith;reeve;work 0 33 1 1;work 0 1 1 1;length 99");
        Check.due("LENGTH at first", x.one(0, 2), 99);
        for (int left = 66; left >= 0; left -= 33) {
            x.does(0, 0);
            Check.due("MINUTES left", x.one(0, 2), left);
        }
        Check.due("none, and not less", x.does(0, 1), Check.NOT);
        Check.due("none, and not less", x.one(0, 2), 0);
        Check.due("another one's", x.one(1, 2), 99);
        x.sleep(0);
        Check.due("LENGTH again", x.one(0, 2), 99);
        CenturyTown least = Check.told("smith;work 0 1 1 1;length 1");
        Check.due("the least LENGTH", least.one(0, 2), 1);
        Check.due("all of it", least.does(0, 0), 0);
    }

    private static void marriedTo() {
        CenturyTown x = five();
        for (int one = 0; one < 5; one++) Check.due("married to nobody", x.one(one, 3), Check.NONE);
        x.marry(4, 0);
        int[] due = {4, Check.NONE, Check.NONE, Check.NONE, 0};
        for (int one = 0; one < 5; one++) Check.due("to whom " + one + " is married", x.one(one, 3), due[one]);
    }

    private static void asleepAndToOversleep() {
        for (int one = 0; one < 5; one += 4) {
            CenturyTown x = five();
            x.oversleep(one, 1);
            for (int other = 0; other < 5; other++) {
                Check.due("ASLEEP " + other, x.one(other, 4), 0);
                Check.due("will have OVERSLEPT " + other, x.one(other, 5), other == one ? 1 : 0);
            }
            x.sleep(0);
            for (int other = 0; other < 5; other++) {
                Check.due("ASLEEP " + other, x.one(other, 4), other == one ? 1 : 0);
                Check.due("will have OVERSLEPT " + other, x.one(other, 5), 0);
            }
        }
    }

    // ---- promise 7

    private static void whichWork() {
        Check.bounds("work(.., 0)", Towns::crowded, 0, 5, Check.UNKNOWN, (x, n) -> x.work(n, 0));
        Check.bounds("work(.., 4)", Towns::busy, 0, 1, Check.UNKNOWN, (x, n) -> x.work(n, 4));
        Check.refused("work(0, 0) of none", CenturyTown::new, x -> x.work(0, 0), Check.UNKNOWN);
    }

    private static void whatOfWork() {
        Check.bounds("work(0, ..)", EdgeToldTest::five, 0, 4, Check.OUTSIDE, (x, n) -> x.work(0, n));
        Check.bounds("work(5, ..)", Towns::crowded, 0, 4, Check.OUTSIDE, (x, n) -> x.work(5, n));
    }

    private static void workUnknownAheadOfOutside() {
        Check.refused("work(3, 5)", EdgeToldTest::five, x -> x.work(3, 5), Check.UNKNOWN);
        Check.refused("work(-1, -1)", EdgeToldTest::five, x -> x.work(-1, -1), Check.UNKNOWN);
    }

    private static void falls() {
        CenturyTown x = five();
        Check.due("it does not HOLD", x.work(2, 4), 0);
        x.does(2, 2);
        for (int left = 9; left > 0; left--) {
            Check.due("FALLS", x.work(2, 4), left);
            Check.due("HOLDS", x.count(7), 4);
            x.sleep(0);
        }
        Check.due("no more", x.work(2, 4), 0);
        Check.due("no more", x.count(7), 0);
        x.sleep(0);
        Check.due("not less than 0", x.work(2, 4), 0);
        Check.due("as told, whether it HOLDS or not", x.work(2, 2), 9);
    }

    // ---- promise 8

    private static void whichGood() {
        Check.bounds("good(.., 0)", EdgeToldTest::five, 0, 4, Check.UNKNOWN, (x, n) -> x.good(n, 0));
        Check.bounds("good(.., 1)", Towns::busy, 0, 1, Check.UNKNOWN, (x, n) -> x.good(n, 1));
        Check.refused("good(0, 0) of none", CenturyTown::new, x -> x.good(0, 0), Check.UNKNOWN);
    }

    private static void whatOfGood() {
        Check.bounds("good(0, ..)", EdgeToldTest::five, 0, 1, Check.OUTSIDE, (x, n) -> x.good(0, n));
        Check.bounds("good(4, ..)", EdgeToldTest::five, 0, 1, Check.OUTSIDE, (x, n) -> x.good(4, n));
    }

    private static void goodUnknownAheadOfOutside() {
        Check.refused("good(5, 2)", EdgeToldTest::five, x -> x.good(5, 2), Check.UNKNOWN);
        Check.refused("good(-1, -1)", EdgeToldTest::five, x -> x.good(-1, -1), Check.UNKNOWN);
    }

    private static void witheredToNothing() {
        CenturyTown x = Check.told("wither 9 4;wither 8 4;wither 99 9;wither 1 0;wither 0 9");
        int[][] due = {{9, 8, 99, 1, 0}, {5, 4, 90, 1, 0}, {1, 0, 81, 1, 0}, {0, 0, 72, 1, 0}, {0, 0, 63, 1, 0}};
        for (int century = 0; century < 5; century++) {
            for (int good = 0; good < 5; good++) {
                Check.due("WORTH of " + good + " in " + century, x.good(good, 0), due[century][good]);
            }
            x.sleep(0);
        }
        for (int century = 5; century < 11; century++) x.sleep(0);
        Check.due("99 less 11 times 9", x.good(2, 0), 0);
        x.sleep(0);
        Check.due("0 at least", x.good(2, 0), 0);
    }

    private static void grownOnAndOn() {
        CenturyTown x = Check.told("grow 99 9;grow 0 0");
        for (int century = 0; century < 200; century++) x.sleep(0);
        Check.due("no greatest WORTH", x.good(0, 0), 99 + 200 * 9);
        Check.due("grown by 0", x.good(1, 0), 0);
        Check.due("sell", x.sell(0), 1899);
        Check.due("SOLD", x.good(0, 1), 1);
        Check.due("not SOLD", x.good(1, 1), 0);
    }

    // ---- promise 9

    private static void whoIsTaken() {
        Check.bounds("as(.., 0)", EdgeToldTest::five, 0, 4, Check.UNKNOWN, (x, n) -> x.as(n, 0));
        Check.refused("as(0, 0) of nobody", CenturyTown::new, x -> x.as(0, 0), Check.UNKNOWN);
    }

    private static void kindOfPeopleBounds() {
        Check.due("as(3, 0)", five().as(3, 0), 7);
        Check.due("as(3, 5)", five().as(3, 5), 7);
        int[] beyond = {-1, 6, Integer.MIN_VALUE, Integer.MAX_VALUE};
        for (int kind : beyond) Check.refused("as(3, " + kind + ")", EdgeToldTest::five, x -> x.as(3, kind), Check.OUTSIDE);
    }

    private static void asRefusedInOrder() {
        Check.refused("as(5, 6)", EdgeToldTest::five, x -> x.as(5, 6), Check.UNKNOWN);
        Check.refused("as(-1, -1)", EdgeToldTest::five, x -> x.as(-1, -1), Check.UNKNOWN);
        Check.refused("as(5, 5)", EdgeToldTest::five, x -> x.as(5, 5), Check.UNKNOWN);
        for (int one = 0; one < 5; one++) {
            int n = one;
            Check.refused("as(" + n + ", 6)", EdgeToldTest::five, x -> x.as(n, 6), Check.OUTSIDE);
            Check.refused("as(" + n + ", -1)", EdgeToldTest::five, x -> x.as(n, -1), Check.OUTSIDE);
        }
    }

    private static void kindsOfPeople() {
        boolean[][] such = {
            {true, true, true, false, false, false},
            {true, true, false, true, false, false},
            {true, false, false, false, true, false},
            {true, false, false, false, true, true},
            {true, true, true, false, false, false}};
        int[] works = {1, 2, 4, 7, 1};
        for (int one = 0; one < 5; one++) {
            for (int kind = 0; kind < 6; kind++) {
                int n = one;
                int k = kind;
                if (such[one][kind]) {
                    Check.due("as(" + n + ", " + k + ")", five().as(n, k), works[n]);
                    Check.unchanged("as(" + n + ", " + k + ")", EdgeToldTest::five, x -> x.as(n, k));
                } else {
                    Check.refused("as(" + n + ", " + k + ")", EdgeToldTest::five, x -> x.as(n, k), Check.NOT);
                }
            }
        }
    }

    private static void whatHeCanDoNow() {
        CenturyTown x = Check.told("reeve;work 0 30 1 1;work 1 31 1 1;work 2 1 1 1");
        Check.due("all", x.as(0, 5), 7);
        x.does(0, 0);
        Check.due("as many MINUTES as are left, not one more", x.as(0, 5), 5);
        x.does(0, 2);
        Check.due("29 left", x.as(0, 5), 4);
        x.undo();
        x.does(0, 0);
        Check.due("none left", x.as(0, 5), 0);
        x.oversleep(0, 1);
        x.sleep(0);
        Check.due("ASLEEP", x.as(0, 5), 0);
        x.sleep(0);
        Check.due("awake", x.as(0, 5), 7);
        Check.due("no WORKS", Check.told("reeve").as(0, 5), 0);
        CenturyTown six = Towns.crowded();
        Check.due("the last WORK of six", six.as(3, 5), 63);
        Check.due("ASLEEP, of six", six.as(4, 2), 0);
    }

    // ---- promise 10

    private static void whichGoodIsTaken() {
        Check.bounds("goodAs(.., 0)", EdgeToldTest::five, 0, 4, Check.UNKNOWN, (x, n) -> x.goodAs(n, 0));
        Check.refused("goodAs(0, 0) of none", CenturyTown::new, x -> x.goodAs(0, 0), Check.UNKNOWN);
    }

    private static void goodAsRefusedInOrder() {
        Check.refused("goodAs(5, 3)", EdgeToldTest::five, x -> x.goodAs(5, 3), Check.UNKNOWN);
        Check.refused("goodAs(-1, -1)", EdgeToldTest::five, x -> x.goodAs(-1, -1), Check.UNKNOWN);
        for (int good = 0; good < 5; good++) {
            int n = good;
            Check.refused("goodAs(" + n + ", 3)", EdgeToldTest::five, x -> x.goodAs(n, 3), Check.OUTSIDE);
            Check.refused("goodAs(" + n + ", -1)", EdgeToldTest::five, x -> x.goodAs(n, -1), Check.OUTSIDE);
        }
        Check.refused("goodAs(0, MAX)", EdgeToldTest::five, x -> x.goodAs(0, Integer.MAX_VALUE), Check.OUTSIDE);
        Check.refused("goodAs(0, MIN)", EdgeToldTest::five, x -> x.goodAs(0, Integer.MIN_VALUE), Check.OUTSIDE);
    }

    private static void kindsOfGoods() {
        int[] own = {1, 2, 1, 2, 1};
        int[] next = {5, 5, 14, 0, 1};
        for (int good = 0; good < 5; good++) {
            int n = good;
            int other = 3 - own[good];
            Check.due("goodAs(" + n + ", 0)", five().goodAs(n, 0), next[n]);
            Check.due("goodAs(" + n + ", " + own[n] + ")", five().goodAs(n, own[n]), next[n]);
            Check.refused("goodAs(" + n + ", " + other + ")", EdgeToldTest::five, x -> x.goodAs(n, other), Check.NOT);
            Check.unchanged("goodAs(" + n + ", 0)", EdgeToldTest::five, x -> x.goodAs(n, 0));
        }
    }

    private static void worthInOneCentury() {
        CenturyTown x = Check.told("wither 5 2;grow 5 2");
        int[] withered = {3, 1, 0, 0};
        for (int century = 0; century < 4; century++) {
            Check.due("withered, 0 at least", x.goodAs(0, 2), withered[century]);
            Check.due("grown", x.goodAs(1, 1), 7 + 2 * century);
            x.sleep(0);
        }
        x.sell(1);
        Check.due("of one SOLD", x.goodAs(1, 1), 15);
    }

    // ---- promise 35

    private static void whatIsCounted() {
        Check.bounds("count", CenturyTown::new, 0, 13, Check.OUTSIDE, CenturyTown::count);
        Check.bounds("count", Towns::crowded, 0, 13, Check.OUTSIDE, CenturyTown::count);
    }

    private static void countedEmptyAndFull() {
        CenturyTown none = new CenturyTown();
        for (int what = 0; what < 14; what++) Check.due("count(" + what + ") at first", none.count(what), what == 3 ? 60 : 0);
        CenturyTown x = Towns.crowded();
        int[] due = {5, 6, 5, 60, 1, 1, 27, 11, 0, 0, 0, 0, 8, 4};
        for (int what = 0; what < 14; what++) Check.due("count(" + what + ") of crowded", x.count(what), due[what]);
        CenturyTown y = Towns.talkative();
        int[] most = {6, 9, 6};
        for (int what = 9; what < 12; what++) Check.due("count(" + what + ") of talkative", y.count(what), most[what - 9]);
        Check.due("letters", Towns.lettered().count(13), 160);
    }

    private static void holdsByBits() {
        CenturyTown x = Check.told("reeve;work 0 1 1 1;work 0 1 1 1;work 0 1 1 1;work 0 1 1 1;work 0 1 1 1;work 0 1 1 1");
        int bits = 0;
        for (int work = 5; work >= 0; work--) {
            x.does(0, work);
            bits |= 1 << work;
            Check.due("WORKS that HOLD", x.count(7), bits);
        }
        Check.due("all fall", x.sleep(0), 63);
        Check.due("none HOLDS", x.count(7), 0);
    }

    public static void main(String[] args) {
        Check.edge("6: UNKNOWN", EdgeToldTest::whichOne);
        Check.edge("6: what 0 .. 5; OUTSIDE", EdgeToldTest::whatOfOne);
        Check.edge("6: UNKNOWN ahead of OUTSIDE", EdgeToldTest::oneUnknownAheadOfOutside);
        Check.edge("Terms: of a KIND, 0 SMITH .. 3 REEVE", EdgeToldTest::kinds);
        Check.edge("6: whom he LIKES, by bits (none at first)", EdgeToldTest::likings);
        Check.edge("6: MINUTES left", EdgeToldTest::minutesOfOne);
        Check.edge("6: to whom married; NONE", EdgeToldTest::marriedTo);
        Check.edge("6: 1 ASLEEP, 0; 1 he will have OVERSLEPT, 0", EdgeToldTest::asleepAndToOversleep);
        Check.edge("7: UNKNOWN", EdgeToldTest::whichWork);
        Check.edge("7: what 0 .. 4; OUTSIDE", EdgeToldTest::whatOfWork);
        Check.edge("7: UNKNOWN ahead of OUTSIDE", EdgeToldTest::workUnknownAheadOfOutside);
        Check.edge("7: FALLS (0: it does not HOLD)", EdgeToldTest::falls);
        Check.edge("8: UNKNOWN", EdgeToldTest::whichGood);
        Check.edge("8: what 0, 1; OUTSIDE", EdgeToldTest::whatOfGood);
        Check.edge("8: UNKNOWN ahead of OUTSIDE", EdgeToldTest::goodUnknownAheadOfOutside);
        Check.edge("Terms: WITHER by as much (0 at least)", EdgeToldTest::witheredToNothing);
        Check.edge("Terms: GROW by 0 .. 9 each CENTURY", EdgeToldTest::grownOnAndOn);
        Check.edge("9: UNKNOWN", EdgeToldTest::whoIsTaken);
        Check.edge("9: a KIND (0 .. 5); OUTSIDE", EdgeToldTest::kindOfPeopleBounds);
        Check.edge("9: UNKNOWN ahead of OUTSIDE ahead of NOT", EdgeToldTest::asRefusedInOrder);
        Check.edge("9: NOT: he is none such", EdgeToldTest::kindsOfPeople);
        Check.edge("9: WORKS that he can do now, by bits", EdgeToldTest::whatHeCanDoNow);
        Check.edge("10: UNKNOWN", EdgeToldTest::whichGoodIsTaken);
        Check.edge("10: a KIND (0 .. 2); OUTSIDE; UNKNOWN first, OUTSIDE ahead of NOT", EdgeToldTest::goodAsRefusedInOrder);
        Check.edge("10: NOT: it is none such", EdgeToldTest::kindsOfGoods);
        Check.edge("10: its WORTH in one CENTURY", EdgeToldTest::worthInOneCentury);
        Check.edge("35: what 0 .. 13; OUTSIDE", EdgeToldTest::whatIsCounted);
        Check.edge("35: none and as many as can be", EdgeToldTest::countedEmptyAndFull);
        Check.edge("35: WORKS that HOLD, by bits", EdgeToldTest::holdsByBits);
        Check.finish("EdgeToldTest");
    }
}
