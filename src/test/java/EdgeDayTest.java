import java.util.function.Consumer;

/** Edges of a day: each sentence of part 2 of Terms, and of promises 11 to 18, that names one has a test of its own. */
public final class EdgeDayTest {
    /** 0 and 1, 1 and 2, 2 and 3 LIKE one another; 3 LIKES 0 alone; nobody LIKES 4. */
    private static CenturyTown chain() {
        return Check.told(Check.FIVE + ";likes 0 1;likes 1 0;likes 1 2;likes 2 1;likes 2 3;likes 3 2;likes 3 0");
    }

    /** A SMITH and a REEVE with 60 MINUTES; WORKS of 59, 60 and 1 MINUTES. */
    private static CenturyTown hours() {
        return Check.told("smith;reeve;work 0 59 1 1;work 0 60 9 2;work 0 1 2 3;work 1 60 1 4;work 2 60 1 5");
    }

    // ---- promise 11

    private static void whoDoesWhat() {
        Check.bounds("does(.., 0)", EdgeDayTest::hours, 0, 1, Check.UNKNOWN, (x, n) -> x.does(n, 0));
        Check.bounds("does(1, ..)", EdgeDayTest::hours, 0, 4, Check.UNKNOWN, (x, n) -> x.does(1, n));
        Check.bounds("does(3, ..)", Towns::crowded, 0, 5, Check.UNKNOWN, (x, n) -> x.does(3, n));
        Check.refused("does(0, 0) of nobody", CenturyTown::new, x -> x.does(0, 0), Check.UNKNOWN);
        Check.refused("does(0, 0) of no WORKS", () -> Check.told("smith"), x -> x.does(0, 0), Check.UNKNOWN);
        Check.refused("does(0, 0) of no PEOPLE", () -> Check.told("work 0 1 1 1"), x -> x.does(0, 0), Check.UNKNOWN);
    }

    private static CenturyTown dozing() {
        CenturyTown x = hours();
        x.oversleep(0, 1);
        x.sleep(0);
        return x;
    }

    private static void doesUnknownAheadOfNot() {
        Check.refused("does(0, 5), ASLEEP", EdgeDayTest::dozing, x -> x.does(0, 5), Check.UNKNOWN);
        Check.refused("does(0, -1), ASLEEP", EdgeDayTest::dozing, x -> x.does(0, -1), Check.UNKNOWN);
        Check.refused("does(2, 3)", EdgeDayTest::hours, x -> x.does(2, 3), Check.UNKNOWN);
    }

    private static void withoutItsSkill() {
        boolean[][] can = {{true, false, false}, {false, true, false}, {false, false, true}, {true, true, true}};
        for (int one = 0; one < 4; one++) {
            for (int work = 0; work < 3; work++) {
                int n = one;
                int w = work;
                if (can[one][work]) {
                    Check.due("does(" + n + ", " + w + ")", skilled().does(n, w), 59);
                } else {
                    Check.refused("does(" + n + ", " + w + ")", EdgeDayTest::skilled, x -> x.does(n, w), Check.NOT);
                }
            }
        }
    }

    private static CenturyTown skilled() {
        return Check.told("smith;mason;scribe;reeve;work 0 1 1 1;work 1 1 1 1;work 2 1 1 1");
    }

    private static void asManyMinutes() {
        Check.due("all MINUTES", hours().does(0, 1), 0);
        Check.due("all but one", hours().does(0, 0), 1);
        CenturyTown x = hours();
        x.does(0, 0);
        Check.due("the last one", x.does(0, 2), 0);
        Check.refused("one too many", () -> {
            CenturyTown y = hours();
            y.does(0, 2);
            return y;
        }, y -> y.does(0, 1), Check.NOT);
        Check.refused("none left", () -> {
            CenturyTown y = hours();
            y.does(0, 1);
            return y;
        }, y -> y.does(0, 2), Check.NOT);
        Check.refused("a LENGTH too short", () -> Check.told("smith;work 0 60 1 1;length 59"), y -> y.does(0, 0), Check.NOT);
        Check.due("a LENGTH just long enough", Check.told("smith;work 0 60 1 1;length 60").does(0, 0), 0);
    }

    private static void notWhileAsleep() {
        for (int work = 0; work < 3; work++) {
            int w = work;
            Check.refused("does(0, " + w + "), ASLEEP", EdgeDayTest::dozing, x -> x.does(0, w), Check.NOT);
        }
        Check.due("another one", dozing().does(1, 0), 1);
        CenturyTown x = dozing();
        x.sleep(0);
        Check.due("awake", x.does(0, 0), 1);
        CenturyTown y = hours();
        y.oversleep(0, 1);
        Check.due("ahead of oversleeping", y.does(0, 0), 1);
    }

    private static void holdsAnew() {
        CenturyTown x = hours();
        x.does(1, 2);
        Check.due("it HOLDS for two", x.work(2, 4), 2);
        Check.due("again in the same day", x.does(1, 2), 58);
        Check.due("not for four", x.work(2, 4), 2);
        x.sleep(0);
        Check.due("for one more", x.work(2, 4), 1);
        x.does(0, 2);
        Check.due("for two again", x.work(2, 4), 2);
        x.sleep(0);
        x.sleep(0);
        Check.due("it fell", x.work(2, 4), 0);
        x.does(0, 2);
        Check.due("for two anew", x.work(2, 4), 2);
        x.does(1, 1);
        Check.due("the longest", x.work(1, 4), 9);
    }

    // ---- promise 12

    private static void whoMarries() {
        int[] beyond = {-1, 5, Integer.MIN_VALUE, Integer.MAX_VALUE};
        for (int none : beyond) {
            Check.refused("marry(" + none + ", 1)", EdgeDayTest::chain, x -> x.marry(none, 1), Check.UNKNOWN);
            Check.refused("marry(1, " + none + ")", EdgeDayTest::chain, x -> x.marry(1, none), Check.UNKNOWN);
        }
        Check.due("the first and the last of five", Check.told(Check.FIVE + ";likes 0 4;likes 4 0").marry(4, 0), 1);
        for (int one = 0; one < 5; one++) {
            int n = one;
            Check.refused("marry(" + n + ", " + n + ")", EdgeDayTest::chain, x -> x.marry(n, n), Check.UNKNOWN);
        }
        Check.refused("marry(0, 0) of nobody", CenturyTown::new, x -> x.marry(0, 0), Check.UNKNOWN);
        Check.refused("marry(0, 1) of one", () -> Check.told("smith"), x -> x.marry(0, 1), Check.UNKNOWN);
    }

    private static void marryUnknownAheadOfNot() {
        Check.refused("marry(4, 5)", EdgeDayTest::chain, x -> x.marry(4, 5), Check.UNKNOWN);
        Check.refused("marry(-1, 4)", EdgeDayTest::chain, x -> x.marry(-1, 4), Check.UNKNOWN);
        Check.refused("marry(0, 0), married", Towns::busy, x -> x.marry(0, 0), Check.UNKNOWN);
    }

    private static void likeOneAnother() {
        for (int one = 0; one < 5; one++) {
            for (int other = 0; other < 5; other++) {
                int a = one;
                int b = other;
                boolean both = Math.abs(a - b) == 1 && a < 4 && b < 4;
                if (both) Check.due("marry(" + a + ", " + b + ")", chain().marry(a, b), 1);
                if (!both && a != b) {
                    Check.refused("marry(" + a + ", " + b + ")", EdgeDayTest::chain, x -> x.marry(a, b), Check.NOT);
                }
            }
        }
    }

    private static void marriedBefore() {
        for (int turned = 0; turned < 2; turned++) {
            boolean t = turned == 1;
            Check.refused("the same two", EdgeDayTest::wed, x -> t ? x.marry(2, 1) : x.marry(1, 2), Check.NOT);
            Check.refused("the lesser is", EdgeDayTest::wed, x -> t ? x.marry(0, 1) : x.marry(1, 0), Check.NOT);
            Check.refused("the greater is", EdgeDayTest::wed, x -> t ? x.marry(3, 2) : x.marry(2, 3), Check.NOT);
        }
        CenturyTown x = chain();
        Check.due("first MARRIAGE", x.marry(1, 0), 1);
        Check.due("second MARRIAGE", x.marry(2, 3), 2);
        for (int i = 0; i < 3; i++) x.sleep(i);
        Check.due("for CENTURIES", x.count(8), 2);
        Check.due("for CENTURIES", x.marry(1, 2), Check.NOT);
    }

    private static CenturyTown wed() {
        CenturyTown x = chain();
        x.marry(1, 2);
        return x;
    }

    private static void marryInNoTime() {
        CenturyTown x = Check.told("smith;smith;likes 0 1;likes 1 0;work 0 60 1 1");
        x.does(0, 0);
        x.does(1, 0);
        Check.due("with no MINUTES left", x.marry(0, 1), 1);
        Check.due("MINUTES", x.one(0, 2), 0);
        x.undo();
        x.undo();
        x.marry(0, 1);
        Check.due("MINUTES none", x.one(1, 2), 60);
    }

    // ---- promise 13

    private static void whatIsSold() {
        Check.bounds("sell", () -> Check.told("grow 1 1;wither 1 1;grow 1 1;grow 1 1;grow 1 1"), 0, 4, Check.UNKNOWN, CenturyTown::sell);
        Check.refused("sell(0) of none", CenturyTown::new, x -> x.sell(0), Check.UNKNOWN);
    }

    private static void soldOnce() {
        Check.refused("sell(1) again", Towns::busy, x -> x.sell(1), Check.NOT);
        Check.refused("sell(0) again", Towns::crowded, x -> x.sell(0), Check.NOT);
        Check.refused("sell(4), CENTURIES later", Towns::crowded, x -> x.sell(4), Check.NOT);
        CenturyTown x = Check.told("wither 0 0");
        Check.due("for nothing", x.sell(0), 0);
        Check.due("it was", x.sell(0), Check.NOT);
        Check.due("it was", x.good(0, 1), 1);
    }

    private static void worthByNow() {
        CenturyTown x = Check.told("grow 99 9;wither 9 9;wither 99 9;grow 1 0");
        Check.due("as told", x.sell(3), 1);
        x.sleep(0);
        Check.due("grown", x.sell(0), 108);
        Check.due("withered to nothing", x.sell(1), 0);
        Check.due("withered", x.sell(2), 90);
        Check.due("earned", x.count(6), 199);
        Check.due("all SOLD", x.sale(9, -1), 0);
    }

    // ---- promise 14

    private static void whoOversleeps() {
        Check.bounds("oversleep(.., 1)", EdgeDayTest::chain, 0, 4, Check.UNKNOWN, (x, n) -> x.oversleep(n, 1));
        Check.bounds("oversleep(.., 0)", Towns::busy, 0, 2, Check.UNKNOWN, (x, n) -> x.oversleep(n, 0));
        Check.refused("oversleep(0, 1) of nobody", CenturyTown::new, x -> x.oversleep(0, 1), Check.UNKNOWN);
    }

    private static void oversleepsOrNot() {
        Check.bounds("oversleep(0, ..)", EdgeDayTest::chain, 0, 1, Check.OUTSIDE, (x, n) -> x.oversleep(0, n));
        Check.bounds("oversleep(2, ..)", Towns::busy, 0, 1, Check.OUTSIDE, (x, n) -> x.oversleep(2, n));
    }

    private static void oversleepUnknownAheadOfOutside() {
        Check.refused("oversleep(5, 2)", EdgeDayTest::chain, x -> x.oversleep(5, 2), Check.UNKNOWN);
        Check.refused("oversleep(-1, -1)", EdgeDayTest::chain, x -> x.oversleep(-1, -1), Check.UNKNOWN);
    }

    private static void whetherHeWasTo() {
        CenturyTown x = chain();
        int[][] calls = {{0, 0}, {1, 0}, {1, 1}, {0, 1}, {0, 0}, {1, 0}};
        for (int[] call : calls) {
            Check.due("oversleep(4, " + call[0] + ")", x.oversleep(4, call[0]), call[1]);
            Check.due("is to", x.one(4, 5), call[0]);
        }
        for (int one = 0; one < 4; one++) Check.due("others are not", x.one(one, 5), 0);
    }

    private static void inTheNextDayAlone() {
        CenturyTown x = chain();
        x.oversleep(0, 1);
        x.oversleep(4, 1);
        x.sleep(0);
        for (int one = 0; one < 5; one++) Check.due("the next day", x.one(one, 4), one % 4 == 0 ? 1 : 0);
        x.oversleep(0, 1);
        x.sleep(0);
        for (int one = 0; one < 5; one++) Check.due("the day behind it", x.one(one, 4), one == 0 ? 1 : 0);
        x.oversleep(0, 1);
        x.oversleep(0, 0);
        x.sleep(0);
        for (int one = 0; one < 5; one++) Check.due("all awake", x.one(one, 4), 0);
    }

    // ---- promise 15

    private static void toldNumber() {
        Check.bounds("sleep", CenturyTown::new, 0, 9999, Check.OUTSIDE, CenturyTown::sleep);
        Check.bounds("sleep", Towns::busy, 0, 9999, Check.OUTSIDE, CenturyTown::sleep);
    }

    /** What no run of 512 calls can reach: more calls are made here, which the document leaves free. */
    private static void theLastCentury() {
        CenturyTown x = Check.told("grow 0 9");
        for (int century = 1; century <= 998; century++) x.sleep(0);
        Check.due("into the last one", x.sleep(0), 0);
        Check.due("CENTURY", x.count(4), 999);
        Check.due("OUTSIDE ahead of FULL", x.sleep(10000), Check.OUTSIDE);
        Check.due("OUTSIDE ahead of FULL", x.sleep(-1), Check.OUTSIDE);
        Check.due("no further", x.sleep(0), Check.FULL);
        Check.due("CENTURY", x.count(4), 999);
        Check.due("can be undone", x.count(12), 8);
        Check.due("WORTH", x.good(0, 0), 8991);
        x.undo();
        Check.due("one less", x.count(4), 998);
        Check.due("again", x.sleep(9999), 0);
        Check.due("CENTURY", x.count(4), 999);
    }

    private static void callsOfOneObject() {
        CenturyTown x = Check.told("grow 0 9");
        for (int call = 10; call < 511; call++) x.sleep(call);
        Check.due("the 511th call", x.good(0, 0), 9 * 501);
        Check.due("the 512th call", x.undo(), 7);
        CenturyTown y = new CenturyTown();
        for (int call = 1; call < 512; call++) y.sleep(0);
        Check.due("the 512th call", y.count(4), 511);
    }

    private static void heldForOneMore() {
        CenturyTown x = Check.told("reeve;length 9;work 0 1 1 1;work 1 1 2 1;work 2 1 9 1;work 0 1 1 1;work 0 1 1 1;work 0 1 1 1");
        Check.due("none HOLDS", x.sleep(0), 0);
        for (int work = 0; work < 4; work++) x.does(0, work);
        x.does(0, 5);
        Check.due("those for one", x.sleep(0), 41);
        Check.due("the one for two", x.sleep(0), 2);
        for (int century = 3; century < 9; century++) Check.due("none", x.sleep(0), 0);
        Check.due("the one for nine", x.sleep(0), 4);
        Check.due("none more", x.sleep(0), 0);
    }

    /** Where THE WORLD is behind z, told in that CENTURY; in those ahead it stayed, by draws not below the CHANCE. */
    private static int worldAfter(int century, int z, int chance) {
        CenturyTown x = Check.told("world 0 1 " + chance);
        for (int i = 0; i < century; i++) x.sleep(stayingNumber(i, chance));
        Check.due("CENTURY", x.count(4), century);
        Check.due("it stayed ahead", x.count(5), 0);
        x.sleep(z);
        return x.count(5);
    }

    private static int stayingNumber(int century, int chance) {
        for (int z = 0; z < 10000; z++) {
            if (((long) z * z + 31L * z + 17L * century + 5) % 65521 % 10 >= chance) return z;
        }
        return 0;
    }

    private static void drawBelowChance() {
        // In CENTURY 0, z 0 draws 5, z 2 draws 1, z 9999 draws 42845 modulo 10.
        Check.due("5 is not below 5", worldAfter(0, 0, 5), 0);
        Check.due("5 is below 6", worldAfter(0, 0, 6), 1);
        Check.due("1 is not below 1", worldAfter(0, 2, 1), 0);
        Check.due("1 is below 2", worldAfter(0, 2, 2), 1);
        Check.due("the greatest z: 5 is not below 5", worldAfter(0, 9999, 5), 0);
        Check.due("the greatest z: 5 is below 6", worldAfter(0, 9999, 6), 1);
    }

    private static void leastAndGreatestChance() {
        // z 0 draws 0 in CENTURY 5, 9 in CENTURY 2; z 1 draws 8 in CENTURY 3.
        Check.due("0 is not below 0", worldAfter(5, 0, 0), 0);
        Check.due("0 is below 1", worldAfter(5, 0, 1), 1);
        Check.due("9 is not below 9", worldAfter(2, 0, 9), 0);
        Check.due("8 is below 9", worldAfter(3, 1, 9), 1);
    }

    private static void drawWrapsAround() {
        // 240 times 240, and 31 times 240, and 5 are 65045; with 17 times 27 they are 65504, with 17 times 28 just 65521.
        Check.due("65504: 4 is not below 4", worldAfter(27, 240, 4), 0);
        Check.due("65504: 4 is below 5", worldAfter(27, 240, 5), 1);
        Check.due("65521: 0 is below 1", worldAfter(28, 240, 1), 1);
        Check.due("65538: 17, 7 is not below 7", worldAfter(29, 240, 7), 0);
        Check.due("65538: 17, 7 is below 8", worldAfter(29, 240, 8), 1);
    }

    private static void theCenturyThatEnds() {
        // z 0 draws 5 in CENTURY 0, 2 in CENTURY 1, 9 in CENTURY 2.
        Check.due("CENTURY 1 draws 2", worldAfter(1, 0, 3), 1);
        Check.due("CENTURY 1 draws 2", worldAfter(1, 0, 2), 0);
        Check.due("CENTURY 0 draws 5", worldAfter(0, 0, 3), 0);
    }

    private static void fromTheLastWorldToTheFirst() {
        CenturyTown x = Check.told("world 0 3 9;world 3 0 9;world 1 2 9");
        x.sleep(0);
        Check.due("0 to 3", x.count(5), 3);
        x.sleep(0);
        Check.due("3 to 0", x.count(5), 0);
        x.sleep(0);
        Check.due("a draw of 9", x.count(5), 0);
        CenturyTown y = Check.told("world 0 3 9;world 1 0 9;world 2 0 9");
        y.sleep(0);
        for (int z = 0; z < 20; z++) y.sleep(z);
        Check.due("nothing is told of 3", y.count(5), 3);
    }

    private static void everybodyHasLengthAgain() {
        CenturyTown x = hours();
        x.does(0, 1);
        x.does(1, 0);
        x.oversleep(1, 1);
        x.sleep(0);
        Check.due("the SMITH", x.one(0, 2), 60);
        Check.due("the REEVE, ASLEEP", x.one(1, 2), 60);
    }

    // ---- promise 16

    /** None of these is ever refused: who oversleeps does nothing. */
    private static void deed(CenturyTown x, int which) {
        switch (which % 5) {
            case 1: x.oversleep(0, 1); break;
            case 2: x.sleep(which); break;
            case 4: x.oversleep(0, which % 2); break;
            default: x.does(1, 2); break;
        }
    }

    /** As many deeds, then as many as can be undone: 8 at most; the town is as it was ahead of each. */
    private static void lastEight(int deeds) {
        CenturyTown x = hours();
        String[] was = new String[deeds + 1];
        was[deeds] = hoursAfter(deeds);
        for (int i = 0; i < deeds; i++) {
            was[i] = hoursAfter(i);
            deed(x, i);
            Check.due("can be undone", x.count(12), Math.min(8, i + 1));
        }
        int can = Math.min(8, deeds);
        for (int i = 1; i <= can; i++) {
            Check.due("undo() " + i + " of " + deeds, x.undo(), can - i);
            Check.due("can be undone", x.count(12), can - i);
            Check.same("undo() " + i + " of " + deeds, Check.day(x), was[deeds - i]);
        }
        Check.due("no more of " + deeds, x.undo(), Check.NOT);
        Check.same("no more of " + deeds, Check.day(x), was[deeds - can]);
    }

    private static String hoursAfter(int deeds) {
        CenturyTown x = hours();
        for (int i = 0; i < deeds; i++) deed(x, i);
        return Check.day(x);
    }

    private static void theLastEight() {
        int[] deeds = {0, 1, 2, 7, 8, 9, 10, 15, 16, 17, 24, 25};
        for (int n : deeds) lastEight(n);
    }

    private static void noneToUndo() {
        Check.refused("undo() at first", CenturyTown::new, CenturyTown::undo, Check.NOT);
        Check.refused("undo() behind a text", EdgeDayTest::hours, CenturyTown::undo, Check.NOT);
        Check.refused("undo() behind back()", () -> {
            CenturyTown x = Towns.busy();
            x.back(0);
            return x;
        }, CenturyTown::undo, Check.NOT);
        CenturyTown x = Towns.crowded();
        for (int left = 7; left >= 0; left--) Check.due("undo()", x.undo(), left);
        Check.due("undo()", x.undo(), Check.NOT);
        Check.due("what lies farther back stays", x.good(4, 1), 1);
    }

    private static void eachDeedUndone(String call, Consumer<CenturyTown> deed) {
        CenturyTown x = Towns.busy();
        String was = Check.day(x);
        int can = x.count(12);
        deed.accept(x);
        Check.due(call + " can be undone", x.count(12), can + 1);
        Check.due(call + " is undone", x.undo(), can);
        Check.same(call + " is undone", Check.day(x), was);
    }

    private static void deedsThatCanBeUndone() {
        eachDeedUndone("does(1, 0)", x -> x.does(1, 0));
        eachDeedUndone("sell(0)", x -> x.sell(0));
        eachDeedUndone("oversleep(0, 1)", x -> x.oversleep(0, 1));
        eachDeedUndone("oversleep(0, 0), which changes nothing", x -> x.oversleep(0, 0));
        eachDeedUndone("sleep(9999)", x -> x.sleep(9999));
        CenturyTown x = chain();
        x.marry(0, 1);
        Check.due("marry(0, 1) can be undone", x.count(12), 1);
        Check.due("marry(0, 1) is undone", x.undo(), 0);
        Check.due("married", x.one(0, 3), Check.NONE);
        Check.due("married", x.one(1, 3), Check.NONE);
        Check.due("MARRIAGES", x.count(8), 0);
    }

    private static void otherCallsAreNoDeeds() {
        CenturyTown x = Towns.busy();
        int can = x.count(12);
        x.keep(1);
        x.wording(1);
        x.ballot(120);
        x.sign(1, 1, 0);
        x.forget();
        x.write('x');
        x.erase();
        Check.due("can be undone", x.count(12), can);
        Check.due("undo()", x.undo(), can - 1);
        Check.due("sell() was the latest", x.good(1, 1), 0);
        Check.due("WORDINGS stay", x.count(9), 3);
        Check.due("BALLOTS stay", x.count(10), 3);
    }

    private static void refusedDeedsAreNone() {
        CenturyTown x = Towns.busy();
        int can = x.count(12);
        Check.due("does(9, 0)", x.does(9, 0), Check.UNKNOWN);
        Check.due("does(2, 0)", x.does(2, 0), Check.NOT);
        Check.due("marry(0, 1)", x.marry(0, 1), Check.NOT);
        Check.due("sell(1)", x.sell(1), Check.NOT);
        Check.due("oversleep(0, 2)", x.oversleep(0, 2), Check.OUTSIDE);
        Check.due("sleep(10000)", x.sleep(10000), Check.OUTSIDE);
        Check.due("can be undone", x.count(12), can);
    }

    // ---- promises 17, 18

    private static void whichIsKept() {
        Check.bounds("keep", CenturyTown::new, 0, 1, Check.UNKNOWN, CenturyTown::keep);
        Check.bounds("keep", Towns::busy, 0, 1, Check.UNKNOWN, CenturyTown::keep);
    }

    private static void whichIsGivenBack() {
        Check.bounds("back", Towns::crowded, 0, 1, Check.UNKNOWN, CenturyTown::back);
    }

    private static void backUnknownAheadOfNot() {
        Check.refused("back(2), nothing kept", CenturyTown::new, x -> x.back(2), Check.UNKNOWN);
        Check.refused("back(-1), nothing kept", CenturyTown::new, x -> x.back(-1), Check.UNKNOWN);
    }

    private static void nothingKept() {
        Check.refused("back(0) at first", CenturyTown::new, x -> x.back(0), Check.NOT);
        Check.refused("back(1) at first", CenturyTown::new, x -> x.back(1), Check.NOT);
        Check.refused("back(1), 0 kept", Towns::busy, x -> x.back(1), Check.NOT);
        Check.refused("back(0), 1 kept", Towns::lettered, x -> x.back(0), Check.NOT);
        for (int k = 0; k < 2; k++) {
            int n = k;
            Check.refused("back(" + n + ") behind a text", () -> {
                CenturyTown x = Towns.crowded();
                x.erase();
                Check.tell(x, "still");
                return x;
            }, x -> x.back(n), Check.NOT);
        }
    }

    private static void aTextWithAFaultForgetsNothing() {
        CenturyTown x = Towns.crowded();
        x.write('x');
        Check.due("town()", x.town(), Check.NOT);
        Check.due("back(1)", x.back(1), 1);
        Check.due("back(0)", x.back(0), 0);
    }

    private static void keptApart() {
        CenturyTown x = hours();
        x.does(0, 0);
        String first = Check.day(x);
        Check.due("keep(0)", x.keep(0), 0);
        x.sleep(0);
        x.oversleep(1, 1);
        String second = Check.day(x);
        Check.due("keep(1)", x.keep(1), 1);
        x.sleep(0);
        Check.due("back(0)", x.back(0), 0);
        Check.same("back(0)", Check.day(x), first);
        Check.due("back(1)", x.back(1), 1);
        Check.same("back(1)", Check.day(x), second);
        Check.due("back(1) again", x.back(1), 1);
        x.does(0, 0);
        x.sleep(0);
        Check.due("back(0) yet", x.back(0), 0);
        Check.same("back(0) yet", Check.day(x), first);
    }

    private static void keptAnew() {
        CenturyTown x = hours();
        x.keep(0);
        x.keep(1);
        x.sleep(0);
        Check.due("in place of the first", x.keep(0), 1);
        x.sleep(0);
        Check.due("back(0)", x.back(0), 1);
        Check.due("back(1)", x.back(1), 0);
    }

    private static void keepingLeavesWhatCanBeUndone() {
        CenturyTown x = Towns.busy();
        int can = x.count(12);
        Check.due("keep(1)", x.keep(1), 1);
        Check.due("can be undone", x.count(12), can);
        x.undo();
        Check.due("what is kept is as it was", x.back(1), 1);
        Check.due("SOLD", x.good(1, 1), 1);
        Check.due("nothing can be undone", x.count(12), 0);
        x.sleep(0);
        Check.due("a deed behind it", x.undo(), 0);
        Check.due("no farther", x.undo(), Check.NOT);
    }

    private static void wordingsBallotsSignsAreNotKept() {
        CenturyTown x = Check.told("smith;smith");
        x.wording(1);
        x.ballot(1);
        x.sign(0, 0, 1);
        x.keep(0);
        x.wording(2);
        x.ballot(10);
        x.sign(0, 1, 1);
        x.back(0);
        for (int what = 9; what < 12; what++) Check.due("count(" + what + ")", x.count(what), 2);
        Check.due("forget()", x.forget(), 2);
        x.back(0);
        Check.due("SIGNS stay forgotten", x.count(11), 0);
    }

    public static void main(String[] args) {
        Check.edge("11: UNKNOWN", EdgeDayTest::whoDoesWhat);
        Check.edge("11: UNKNOWN ahead of NOT", EdgeDayTest::doesUnknownAheadOfNot);
        Check.edge("11: if he has its SKILL; NOT: he can not", EdgeDayTest::withoutItsSkill);
        Check.edge("11: and as many MINUTES left; NOT: he can not", EdgeDayTest::asManyMinutes);
        Check.edge("11: one of PEOPLE who is not ASLEEP; NOT: he can not", EdgeDayTest::notWhileAsleep);
        Check.edge("Part 2: it HOLDS for as many CENTURIES from now on (also if it does yet)", EdgeDayTest::holdsAnew);
        Check.edge("12: UNKNOWN (one and himself, too)", EdgeDayTest::whoMarries);
        Check.edge("12: UNKNOWN ahead of NOT", EdgeDayTest::marryUnknownAheadOfNot);
        Check.edge("Part 2: two who LIKE one another; NOT: they may not", EdgeDayTest::likeOneAnother);
        Check.edge("Part 2: and are not married; NOT: they may not", EdgeDayTest::marriedBefore);
        Check.edge("Part 2: may MARRY (MINUTES none)", EdgeDayTest::marryInNoTime);
        Check.edge("13: UNKNOWN", EdgeDayTest::whatIsSold);
        Check.edge("13: a GOOD is SOLD once; NOT: it was", EdgeDayTest::soldOnce);
        Check.edge("13: for its WORTH as it is by now", EdgeDayTest::worthByNow);
        Check.edge("14: UNKNOWN", EdgeDayTest::whoOversleeps);
        Check.edge("14: OVERSLEEPS (1), or does not (0); OUTSIDE", EdgeDayTest::oversleepsOrNot);
        Check.edge("14: UNKNOWN ahead of OUTSIDE", EdgeDayTest::oversleepUnknownAheadOfOutside);
        Check.edge("14: whether he was to", EdgeDayTest::whetherHeWasTo);
        Check.edge("Part 2: who OVERSLEEPS is ASLEEP in the next day", EdgeDayTest::inTheNextDayAlone);
        Check.edge("15: a told number z (0 .. 9999); OUTSIDE", EdgeDayTest::toldNumber);
        Check.edge("15: FULL: it is CENTURY 999", EdgeDayTest::theLastCentury);
        Check.edge("An object is used for at most 512 calls", EdgeDayTest::callsOfOneObject);
        Check.edge("15: WORKS that HELD for one more HOLD no more, by bits", EdgeDayTest::heldForOneMore);
        Check.edge("Part 2: it goes if that is below its CHANCE", EdgeDayTest::drawBelowChance);
        Check.edge("Terms: a CHANCE of 0 .. 9 tenths", EdgeDayTest::leastAndGreatestChance);
        Check.edge("Part 2: modulo 65521, modulo 10", EdgeDayTest::drawWrapsAround);
        Check.edge("Part 2: 17 times the CENTURY that ends", EdgeDayTest::theCenturyThatEnds);
        Check.edge("Terms: THE WORLD is 0 .. 3; else it stays", EdgeDayTest::fromTheLastWorldToTheFirst);
        Check.edge("Part 2: everybody has LENGTH again", EdgeDayTest::everybodyHasLengthAgain);
        Check.edge("16: the last 8 can be: how many can be undone yet", EdgeDayTest::theLastEight);
        Check.edge("16: NOT: none", EdgeDayTest::noneToUndo);
        Check.edge("16: the latest does(), marry(), sell(), oversleep(), sleep()", EdgeDayTest::deedsThatCanBeUndone);
        Check.edge("16: no other call is undone", EdgeDayTest::otherCallsAreNoDeeds);
        Check.edge("16: a refused deed is none", EdgeDayTest::refusedDeedsAreNone);
        Check.edge("17: UNKNOWN: no such k", EdgeDayTest::whichIsKept);
        Check.edge("18: UNKNOWN", EdgeDayTest::whichIsGivenBack);
        Check.edge("18: UNKNOWN ahead of NOT", EdgeDayTest::backUnknownAheadOfNot);
        Check.edge("18: NOT: nothing was kept since the last text", EdgeDayTest::nothingKept);
        Check.edge("18: a text that is refused is none", EdgeDayTest::aTextWithAFaultForgetsNothing);
        Check.edge("17: k 0, 1", EdgeDayTest::keptApart);
        Check.edge("17: kept anew", EdgeDayTest::keptAnew);
        Check.edge("17, 18: but what can be undone; nothing can be undone", EdgeDayTest::keepingLeavesWhatCanBeUndone);
        Check.edge("17: but WORDINGS, BALLOTS, SIGNS", EdgeDayTest::wordingsBallotsSignsAreNotKept);
        Check.finish("EdgeDayTest");
    }
}
