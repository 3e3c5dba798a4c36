/** Promises 6 to 10 and 35: one, work, good, as, goodAs, count. */
public final class ToldTest {
    private static final String FOUR = "smith;mason;scribe;reeve";
    private static final String WORKS = "work 0 10 1 1;work 1 20 2 2;work 2 30 3 3;work 0 60 9 50";

    private static void people() {
        CenturyTown x = Check.told(FOUR + ";likes 0 1;likes 0 3;likes 2 0;" + WORKS);
        int[][] due = {{0, 10, 60, -1, 0, 0}, {1, 0, 60, -1, 0, 0}, {2, 1, 60, -1, 0, 0}, {3, 0, 60, -1, 0, 0}};
        for (int one = 0; one < 4; one++) {
            for (int what = 0; what < 6; what++) Check.due("one(" + one + ", " + what + ")", x.one(one, what), due[one][what]);
            Check.due("one, what 6", x.one(one, 6), Check.OUTSIDE);
            Check.due("one, what -1", x.one(one, -1), Check.OUTSIDE);
        }
        Check.due("one(4, 9)", x.one(4, 9), Check.UNKNOWN);
        Check.due("one(-1, 0)", x.one(-1, 0), Check.UNKNOWN);
        x.does(1, 1);
        x.oversleep(1, 1);
        Check.due("MINUTES left", x.one(1, 2), 40);
        Check.due("to oversleep", x.one(1, 5), 1);
        Check.due("not ASLEEP yet", x.one(1, 4), 0);
        x.sleep(0);
        Check.due("MINUTES of one ASLEEP", x.one(1, 2), 60);
        Check.due("ASLEEP", x.one(1, 4), 1);
        Check.due("no more to oversleep", x.one(1, 5), 0);
        x.sleep(0);
        Check.due("awake", x.one(1, 4), 0);
    }

    private static void works() {
        CenturyTown x = Check.told(FOUR + ";" + WORKS);
        int[][] due = {{0, 10, 1, 1, 0}, {1, 20, 2, 2, 0}, {2, 30, 3, 3, 0}, {0, 60, 9, 50, 0}};
        for (int work = 0; work < 4; work++) {
            for (int what = 0; what < 5; what++) {
                Check.due("work(" + work + ", " + what + ")", x.work(work, what), due[work][what]);
            }
            Check.due("work, what 5", x.work(work, 5), Check.OUTSIDE);
            Check.due("work, what -1", x.work(work, -1), Check.OUTSIDE);
        }
        Check.due("work(4, 9)", x.work(4, 9), Check.UNKNOWN);
        Check.due("work(-1, 0)", x.work(-1, 0), Check.UNKNOWN);
        x.does(2, 2);
        for (int falls = 3; falls >= 0; falls--) {
            Check.due("FALLS", x.work(2, 4), falls);
            Check.due("HOLD", x.count(7), falls > 0 ? 4 : 0);
            x.sleep(0);
        }
        Check.due("FALLS no further", x.work(2, 4), 0);
    }

    private static void goods() {
        CenturyTown x = Check.told("grow 5 3;wither 7 3;grow 9 0;wither 99 9;wither 0 0");
        int[] first = {5, 7, 9, 99, 0};
        for (int century = 0; century < 13; century++) {
            int[] now = {5 + 3 * century, Math.max(0, 7 - 3 * century), 9, Math.max(0, 99 - 9 * century), 0};
            int[] next = {8 + 3 * century, Math.max(0, 4 - 3 * century), 9, Math.max(0, 90 - 9 * century), 0};
            for (int good = 0; good < 5; good++) {
                int kind = good % 2 == 0 && good < 4 ? 1 : 2;
                Check.due("WORTH of " + good + " in " + century, x.good(good, 0), now[good]);
                Check.due("as a GOOD", x.goodAs(good, 0), next[good]);
                Check.due("as its KIND", x.goodAs(good, kind), next[good]);
                Check.due("as the other KIND", x.goodAs(good, 3 - kind), Check.NOT);
            }
            x.sleep(century);
        }
        Check.due("goodAs(0, 3)", x.goodAs(0, 3), Check.OUTSIDE);
        Check.due("goodAs(0, -1)", x.goodAs(0, -1), Check.OUTSIDE);
        Check.due("goodAs(5, 3)", x.goodAs(5, 3), Check.UNKNOWN);
        Check.due("goodAs(-1, 0)", x.goodAs(-1, 0), Check.UNKNOWN);
        Check.due("good(0, 2)", x.good(0, 2), Check.OUTSIDE);
        Check.due("good(0, -1)", x.good(0, -1), Check.OUTSIDE);
        Check.due("good(5, 7)", x.good(5, 7), Check.UNKNOWN);
        Check.due("good(-1, 0)", x.good(-1, 0), Check.UNKNOWN);
        x.sell(0);
        Check.due("SOLD", x.good(0, 1), 1);
        Check.due("not SOLD", x.good(1, 1), 0);
        x.sleep(0);
        Check.due("a SOLD one grows on", x.good(0, 0), 5 + 3 * 14);
        x.undo();
        x.undo();
        Check.due("SOLD no more", x.good(0, 1), 0);
        Check.tell(x, "length 9");
        for (int good = 0; good < 5; good++) Check.due("WORTH as told", x.good(good, 0), first[good]);
    }

    private static void takenAs() {
        CenturyTown x = Check.told(FOUR + ";" + WORKS);
        int[] does = {9, 2, 4, 15};
        int[][] kinds = {{0, 1, 2}, {0, 1, 3}, {0, 4}, {0, 4, 5}};
        for (int one = 0; one < 4; one++) {
            for (int kind = 0; kind < 6; kind++) {
                int want = Check.NOT;
                for (int k : kinds[one]) want = k == kind ? does[one] : want;
                Check.due("as(" + one + ", " + kind + ")", x.as(one, kind), want);
            }
            Check.due("as, kind 6", x.as(one, 6), Check.OUTSIDE);
            Check.due("as, kind -1", x.as(one, -1), Check.OUTSIDE);
        }
        Check.due("as(4, 6)", x.as(4, 6), Check.UNKNOWN);
        Check.due("as(-1, 0)", x.as(-1, 0), Check.UNKNOWN);
        x.does(3, 2);
        Check.due("a REEVE with 30 left", x.as(3, 5), 7);
        x.does(3, 1);
        Check.due("a REEVE with 10 left", x.as(3, 4), 1);
        x.does(3, 0);
        Check.due("a REEVE with none left", x.as(3, 0), 0);
        x.oversleep(0, 1);
        x.sleep(1);
        Check.due("one ASLEEP", x.as(0, 2), 0);
        Check.due("one ASLEEP is no MASON", x.as(0, 3), Check.NOT);
        Check.due("the REEVE anew", x.as(3, 5), 15);
    }

    private static void counting() {
        CenturyTown x = Check.told(FOUR + ";" + WORKS + ";grow 9 1;wither 8 1;length 70;likes 0 1;likes 1 0");
        x.does(0, 0);
        x.does(3, 2);
        x.marry(0, 1);
        x.sell(0);
        x.sell(1);
        x.wording(5);
        x.wording(6);
        x.ballot(3210);
        x.sign(1, 1, 0);
        x.sign(1, 2, 0);
        x.sign(1, 3, 0);
        Check.write(x, "town;");
        int[] due = {4, 4, 2, 70, 0, 0, 17, 5, 1, 2, 1, 3, 5, 5};
        for (int what = 0; what < 14; what++) Check.due("count(" + what + ")", x.count(what), due[what]);
        Check.due("count(14)", x.count(14), Check.OUTSIDE);
        Check.due("count(-1)", x.count(-1), Check.OUTSIDE);
        x.sleep(0);
        Check.due("the CENTURY", x.count(4), 1);
        Check.due("WORKS that HOLD", x.count(7), 4);
    }

    public static void main(String[] args) {
        people();
        works();
        goods();
        takenAs();
        counting();
        Check.finish("ToldTest");
    }
}
