import java.util.Arrays;
import java.util.Random;

/** Promises 19 to 26: plan, planOf, shortest, sale, odds, sign, forget, likely; by examples and by trying all. */
public final class ForetoldTest {
    private static void planExamples() {
        CenturyTown x = Check.told("reeve;smith;mason;length 50;work 0 30 2 9;work 1 30 1 7;work 2 25 3 4;work 0 30 1 8");
        Check.due("plan()", x.plan(), 24);
        int[] due = {0, 2, Check.NONE, 1};
        for (int work = 0; work < 4; work++) Check.due("planOf(" + work + ")", x.planOf(work), due[work]);
        Check.due("planOf(4)", x.planOf(4), Check.UNKNOWN);
        Check.due("planOf(-1)", x.planOf(-1), Check.UNKNOWN);
        Check.due("shortest()", x.shortest(), 55);
        x.does(0, 2);
        Check.due("plan() ahead of which one HOLDS", x.plan(), 9 + 7 + 4);
        Check.due("what HOLDS is done by none", x.planOf(2), Check.NONE);
        Check.due("shortest() with one that HOLDS", x.shortest(), 30);
        x.oversleep(1, 1);
        x.sleep(0);
        Check.due("plan() with one ASLEEP", x.plan(), 4 + 9 + 7);
        Check.due("planOf(0) with one ASLEEP", x.planOf(0), 0);
        Check.due("shortest(), none ASLEEP", x.shortest(), 30);
        for (int i = 0; i < 5; i++) Check.due("plan changes nothing", x.count(7), 4);
        CenturyTown idle = Check.told("smith;work 0 9 1 0");
        Check.due("of no WORTH", idle.plan(), 0);
        Check.due("none ahead of PEOPLE", idle.planOf(0), Check.NONE);
        Check.due("nothing to gain", idle.shortest(), 1);
        CenturyTown dozing = Check.told("smith;work 0 1 1 5");
        dozing.oversleep(0, 1);
        dozing.sleep(0);
        Check.due("plan() with all ASLEEP", dozing.plan(), 0);
        Check.due("planOf(0) with all ASLEEP", dozing.planOf(0), Check.NONE);
        CenturyTown all = Check.told("smith;work 0 33 1 1;work 0 33 1 1;work 0 34 1 1");
        Check.due("100 MINUTES in 99", all.shortest(), 66);
        Check.due("plan() in 60", all.plan(), 1);
        Check.due("the first row", all.planOf(2), 0);
        Check.tell(all, "length 99");
        Check.due("plan() in 99", all.plan(), 2);
        Check.due("of several the first row", all.planOf(0), Check.NONE);
        Check.due("of several the first row", all.planOf(1), 0);
    }

    /** What a PLAN goes by, asked once: trying all rows on the town itself would take more calls than it is good for. */
    private static final class Asked {
        final int[] kinds, left, asleep;
        final int[][] works;

        Asked(CenturyTown x) {
            kinds = new int[x.count(0)];
            left = new int[kinds.length];
            asleep = new int[kinds.length];
            works = new int[x.count(1)][5];
            for (int one = 0; one < kinds.length; one++) {
                kinds[one] = x.one(one, 0);
                left[one] = x.one(one, 2);
                asleep[one] = x.one(one, 4);
            }
            for (int work = 0; work < works.length; work++) {
                for (int what = 0; what < 5; what++) works[work][what] = x.work(work, what);
            }
        }

        /** The WORTH of a row, -1 if it can't be; with a LENGTH of 0 by what is left, else anew. */
        int fitting(int[] row, int length) {
            int[] time = left.clone();
            int worth = 0;
            if (length > 0) Arrays.fill(time, length);
            for (int work = 0; work < works.length; work++) {
                int one = row[work] - 1;
                if (one >= 0) {
                    boolean skilled = kinds[one] == 3 || kinds[one] == works[work][0];
                    time[one] -= works[work][1];
                    if (!skilled || length == 0 && asleep[one] == 1 || time[one] < 0) return -1;
                }
                if (one >= 0 || works[work][4] > 0) worth += works[work][3];
            }
            return worth;
        }

        /** The best row of all, the first of several, and its WORTH behind it. */
        int[] bestRow(int length) {
            int[] row = new int[7];
            int[] best = new int[7];
            best[6] = -1;
            while (true) {
                int worth = fitting(row, length);
                if (worth > best[6]) {
                    System.arraycopy(row, 0, best, 0, 6);
                    best[6] = worth;
                }
                int place = works.length - 1;
                while (place >= 0 && row[place] == kinds.length) row[place--] = 0;
                if (place < 0) return best;
                row[place]++;
            }
        }
    }

    private static void plansByTryingAll() {
        Random random = new Random(19);
        String[] kinds = {"smith", "mason", "scribe", "reeve"};
        for (int run = 0; run < 120; run++) {
            int people = run < 2 ? 5 : random.nextInt(5);
            int works = run < 2 ? 6 : random.nextInt(6);
            StringBuilder text = new StringBuilder("length " + (1 + random.nextInt(99)));
            for (int i = 0; i < people; i++) text.append(';').append(kinds[random.nextInt(4)]);
            CenturyTown x = Check.told(text.toString());
            for (int i = 0; i < works; i++) {
                int most = random.nextBoolean() ? 60 : 25;
                int worth = random.nextBoolean() ? random.nextInt(4) : random.nextInt(51);
                Check.tell(x, "work " + random.nextInt(3) + " " + (1 + random.nextInt(most)) + " "
                    + (1 + random.nextInt(3)) + " " + worth);
            }
            for (int day = 0; day < 2; day++) {
                Asked asked = new Asked(x);
                int[] best = asked.bestRow(0);
                Check.due("plan() of " + text, x.plan(), best[6]);
                for (int work = 0; work < works; work++) Check.due("planOf(" + work + ")", x.planOf(work), best[work] - 1);
                if (works < 5) {
                    int goal = asked.bestRow(99)[6];
                    int least = 1;
                    while (asked.bestRow(least)[6] < goal) least++;
                    Check.due("shortest() of " + text, x.shortest(), least);
                }
                for (int i = 0; i < 4; i++) x.oversleep(random.nextInt(5), random.nextInt(2));
                if (random.nextBoolean()) x.sleep(random.nextInt(10000));
                for (int i = 0; i < 3; i++) x.does(random.nextInt(5), random.nextInt(6));
            }
        }
    }

    private static void saleExamples() {
        CenturyTown x = Check.told("grow 10 5;wither 20 5;grow 1 0;wither 3 9");
        Check.due("sale(1, NONE)", x.sale(1, -1), 20);
        Check.due("sale(1, 0)", x.sale(1, 0), Check.NONE);
        Check.due("sale(1, 1)", x.sale(1, 1), 0);
        Check.due("sale(2, NONE)", x.sale(2, -1), 35);
        Check.due("sale(2, 0)", x.sale(2, 0), 1);
        Check.due("sale(3, NONE)", x.sale(3, -1), 20 + 20 + 1);
        Check.due("sale(3, 2)", x.sale(3, 2), 1);
        Check.due("sale(3, 3)", x.sale(3, 3), Check.NONE);
        Check.due("sale(9, NONE)", x.sale(9, -1), 50 + 20 + 1);
        Check.due("sale(9, 0)", x.sale(9, 0), 8);
        Check.due("sale(9, 1)", x.sale(9, 1), 0);
        Check.due("sale(9, 2), the first day free", x.sale(9, 2), 1);
        Check.due("sale(0, NONE)", x.sale(0, -1), Check.OUTSIDE);
        Check.due("sale(10, 0)", x.sale(10, 0), Check.OUTSIDE);
        Check.due("sale(0, 4)", x.sale(0, 4), Check.UNKNOWN);
        Check.due("sale(1, -2)", x.sale(1, -2), Check.UNKNOWN);
        x.sell(1);
        Check.due("sale(2, NONE) without it", x.sale(2, -1), 3 + 15);
        Check.due("a SOLD one's day", x.sale(2, 1), Check.NONE);
        x.sleep(0);
        Check.due("sale(1, NONE) a CENTURY on", x.sale(1, -1), 15);
    }

    private static void salesByTryingAll() {
        Random random = new Random(22);
        for (int run = 0; run < 60; run++) {
            int goods = random.nextInt(6);
            CenturyTown x = new CenturyTown();
            for (int i = 0; i < goods; i++) {
                Check.tell(x, (random.nextBoolean() ? "grow " : "wither ") + random.nextInt(run % 3 == 0 ? 6 : 40) + " "
                    + random.nextInt(run % 2 == 0 ? 3 : 10));
            }
            for (int i = random.nextInt(3); i > 0; i--) x.sleep(0);
            if (random.nextBoolean()) x.sell(random.nextInt(5));
            int n = 1 + random.nextInt(goods == 5 ? 6 : 9);
            int[][] price = new int[5][9];
            x.keep(0);
            for (int day = 0; day < n; day++) {
                for (int good = 0; good < goods; good++) price[good][day] = x.good(good, 0);
                x.sleep(0);
            }
            x.back(0);
            boolean[] sold = new boolean[5];
            for (int good = 0; good < goods; good++) sold[good] = x.good(good, 1) == 1;
            int[] row = new int[5];
            int[] best = new int[5];
            int most = -1;
            boolean more = true;
            while (more) {
                int total = 0;
                int taken = 0;
                for (int good = 0; good < goods && total >= 0; good++) {
                    int day = row[good] - 1;
                    if (day < 0) continue;
                    boolean may = (taken >> day & 1) == 0 && !sold[good];
                    total = may ? total + price[good][day] : -1;
                    taken |= 1 << day;
                }
                if (total > most) {
                    most = total;
                    best = row.clone();
                }
                int place = goods - 1;
                while (place >= 0 && row[place] == n) row[place--] = 0;
                more = place >= 0;
                if (more) row[place]++;
            }
            Check.due("sale(" + n + ", NONE)", x.sale(n, -1), most);
            for (int good = 0; good < goods; good++) Check.due("sale(" + n + ", " + good + ")", x.sale(n, good), best[good] - 1);
        }
    }

    private static void oddsExamples() {
        CenturyTown x = Check.told("world 0 1 5;world 1 2 2");
        long[][] due = {{1, 4}, {13, 20}, {1, 10}, {0, 1}};
        for (int world = 0; world < 4; world++) {
            for (int part = 0; part < 2; part++) {
                Check.due("odds(" + world + ", 2, " + part + ")", x.odds(world, 2, part), due[world][part]);
            }
        }
        Check.due("odds(0, 0, 0)", x.odds(0, 0, 0), 1);
        Check.due("odds(0, 9, 1)", x.odds(0, 9, 1), 512);
        Check.due("odds(4, 10, 2)", x.odds(4, 10, 2), Check.UNKNOWN);
        Check.due("odds(-1, 0, 0)", x.odds(-1, 0, 0), Check.UNKNOWN);
        Check.due("odds(0, -1, 0)", x.odds(0, -1, 0), Check.OUTSIDE);
        Check.due("odds(0, 10, 0)", x.odds(0, 10, 0), Check.OUTSIDE);
        Check.due("odds(0, 0, 2)", x.odds(0, 0, 2), Check.OUTSIDE);
        Check.due("odds(0, 0, -1)", x.odds(0, 0, -1), Check.OUTSIDE);
        CenturyTown far = Check.told("world 0 1 9;world 1 0 7");
        Check.due("odds of nine CENTURIES", far.odds(0, 9, 0), 1686841);
        Check.due("odds of nine CENTURIES", far.odds(0, 9, 1), 3906250);
        CenturyTown away = Check.told("world 0 1 9");
        Check.due("odds to stay for nine", away.odds(0, 9, 0), 1);
        Check.due("odds to stay for nine", away.odds(0, 9, 1), 1000000000);
        Check.due("odds to go in nine", away.odds(1, 9, 0), 999999999);
        for (int z = 0; far.count(5) == 0 && z < 50; z++) far.sleep(z);
        Check.due("THE WORLD has gone on", far.count(5), 1);
        Check.due("odds from THE WORLD that is", far.odds(0, 1, 0), 7);
    }

    private static void signing() {
        CenturyTown x = Check.told("world 0 1 5");
        Check.due("sign(4, 10, 2)", x.sign(4, 10, 2), Check.UNKNOWN);
        Check.due("sign(-1, 0, 1)", x.sign(-1, 0, 1), Check.UNKNOWN);
        Check.due("sign(0, 10, 1)", x.sign(0, 10, 1), Check.OUTSIDE);
        Check.due("sign(0, -1, 1)", x.sign(0, -1, 1), Check.OUTSIDE);
        Check.due("sign(0, 0, -1)", x.sign(0, 0, -1), Check.OUTSIDE);
        Check.due("sign(0, 0, 2)", x.sign(0, 0, 2), Check.OUTSIDE);
        for (int i = 1; i <= 6; i++) Check.due("sign", x.sign(2, 9, 0), i);
        Check.due("a seventh", x.sign(2, 9, 0), Check.FULL);
        Check.due("OUTSIDE when full", x.sign(2, 10, 0), Check.OUTSIDE);
        Check.due("likely(2, 9, 0)", x.likely(2, 9, 0), 0);
        Check.due("likely(2, 9, 1)", x.likely(2, 9, 1), 1);
        Check.due("likely(3, 0, 1)", x.likely(3, 0, 1), 3);
        x.sleep(0);
        Check.due("SIGNS stay", x.count(11), 6);
        Check.due("forget()", x.forget(), 6);
        Check.due("forget() again", x.forget(), 0);
        Check.due("likely(0, 8, 0)", x.likely(0, 8, 0), 1);
        Check.due("likely(0, 8, 1)", x.likely(0, 8, 1), 8);
        Check.due("likely(4, 10, 0)", x.likely(4, 10, 0), Check.UNKNOWN);
        Check.due("likely(0, 10, 0)", x.likely(0, 10, 0), Check.OUTSIDE);
        Check.due("likely(0, -1, 0)", x.likely(0, -1, 0), Check.OUTSIDE);
        Check.due("likely(0, 0, 2)", x.likely(0, 0, 2), Check.OUTSIDE);
        x.sign(1, 5, 1);
        x.sign(0, 4, 1);
        Check.due("SIGNS can not be so", x.likely(0, 0, 0), Check.NOT);
        Check.due("OUTSIDE ahead of NOT", x.likely(0, 0, 2), Check.OUTSIDE);
    }

    private static long common(long a, long b) {
        return b == 0 ? a : common(b, a % b);
    }

    private static long sumFits, sumAll;

    /** Goes through every course of ten WORLDS, the first one 9 CENTURIES ago. */
    private static void courses(int[] after, int[] tenths, int[][] signs, int[] course, int depth, long weight, int asked) {
        int ago = 9 - depth;
        for (int[] s : signs) {
            if (s[1] == ago && (course[depth] == s[0]) != (s[2] == 1)) return;
        }
        if (depth == 9) {
            sumAll += weight;
            sumFits += course[9 - asked / 4] == asked % 4 ? weight : 0;
            return;
        }
        int world = course[depth];
        course[depth + 1] = world;
        courses(after, tenths, signs, course, depth + 1, weight * (10 - tenths[world]), asked);
        if (tenths[world] > 0) {
            course[depth + 1] = after[world];
            courses(after, tenths, signs, course, depth + 1, weight * tenths[world], asked);
        }
    }

    private static void likelyByTryingAll() {
        Random random = new Random(26);
        for (int run = 0; run < 150; run++) {
            int[] after = new int[4];
            int[] tenths = new int[4];
            StringBuilder text = new StringBuilder("still");
            for (int world = 0; world < 4; world++) {
                after[world] = (world + 1 + random.nextInt(3)) % 4;
                tenths[world] = random.nextInt(10);
                text.append(";world ").append(world).append(' ').append(after[world]).append(' ').append(tenths[world]);
            }
            CenturyTown x = Check.told(text.toString());
            int[][] signs = new int[random.nextInt(7)][];
            for (int i = 0; i < signs.length; i++) {
                signs[i] = new int[] {random.nextInt(4), random.nextInt(10), random.nextInt(3) == 0 ? 1 : 0};
                x.sign(signs[i][0], signs[i][1], signs[i][2]);
            }
            for (int i = 0; i < 6; i++) {
                int asked = random.nextInt(40);
                sumFits = 0;
                sumAll = 0;
                for (int world = 0; world < 4; world++) {
                    int[] course = new int[10];
                    course[0] = world;
                    courses(after, tenths, signs, course, 0, 1, asked);
                }
                long shared = common(sumFits, sumAll);
                for (int part = 0; part < 2; part++) {
                    long want = sumAll == 0 ? Check.NOT : (part == 0 ? sumFits : sumAll) / shared;
                    Check.due("likely of " + text, x.likely(asked % 4, asked / 4, part), want);
                }
            }
            for (int t = 0; t < 10; t++) {
                long above = 0;
                for (int world = 0; world < 4; world++) {
                    above += x.odds(world, t, 0) * (1000000000L / x.odds(world, t, 1));
                    Check.due("lowest terms", common(x.odds(world, t, 0), x.odds(world, t, 1)), 1);
                }
                Check.due("odds of all four", above, 1000000000L);
            }
        }
    }

    public static void main(String[] args) {
        planExamples();
        plansByTryingAll();
        saleExamples();
        salesByTryingAll();
        oddsExamples();
        signing();
        likelyByTryingAll();
        Check.finish("ForetoldTest");
    }
}
