import java.util.ArrayList;
import java.util.List;
import java.util.Random;

/** Promises 27 to 34: wording, bears, meant, pairs, ballot, mayor, points, swing; by examples and by trying all. */
public final class TogetherTest {
    private static void wordingExamples() {
        CenturyTown x = new CenturyTown();
        Check.due("wording(-1)", x.wording(-1), Check.OUTSIDE);
        Check.due("wording(64)", x.wording(64), Check.OUTSIDE);
        Check.due("meant without WORDINGS", x.meant(0, 6), 0);
        Check.due("wording(0)", x.wording(0), 1);
        Check.due("one alone", x.bears(), 6);
        Check.due("wording(63)", x.wording(63), 2);
        Check.due("wording(0) again", x.wording(0), Check.NOT);
        Check.due("bears()", x.bears(), 2);
        for (int bits = 3; bits < 7; bits++) Check.due("wording", x.wording(bits), bits);
        Check.due("NOT ahead of FULL", x.wording(63), Check.NOT);
        Check.due("a seventh", x.wording(9), Check.FULL);
        Check.due("OUTSIDE ahead of FULL", x.wording(99), Check.OUTSIDE);
        Check.due("meant(64, 0)", x.meant(64, 0), Check.OUTSIDE);
        Check.due("meant(-1, 0)", x.meant(-1, 0), Check.OUTSIDE);
        Check.due("meant(0, -1)", x.meant(0, -1), Check.OUTSIDE);
        Check.due("meant(0, 7)", x.meant(0, 7), Check.OUTSIDE);
        Check.due("meant(0, 6)", x.meant(0, 6), 63);
    }

    /** Whether each WORDING, altered in k letters at most in any way, is nearer to itself than to each other one. */
    private static boolean bearsSo(List<Integer> all, int k) {
        for (int own : all) {
            for (int read = 0; read < 64; read++) {
                int off = Integer.bitCount(own ^ read);
                for (int other : all) {
                    if (off <= k && other != own && Integer.bitCount(other ^ read) <= off) return false;
                }
            }
        }
        return true;
    }

    private static void wordingsByTryingAll() {
        Random random = new Random(27);
        for (int run = 0; run < 200; run++) {
            CenturyTown x = new CenturyTown();
            List<Integer> all = new ArrayList<>();
            int size = 1 + random.nextInt(run % 2 == 0 ? 2 : 6);
            while (all.size() < size) {
                int bits = random.nextInt(64);
                boolean fresh = !all.contains(bits);
                if (fresh) all.add(bits);
                Check.due("wording(" + bits + ")", x.wording(bits), fresh ? all.size() : Check.NOT);
            }
            int most = 0;
            while (most < 6 && bearsSo(all, most + 1)) most++;
            Check.due("bears() of " + all, x.bears(), most);
            int read = random.nextInt(64);
            for (int k = 0; k < 7; k++) {
                int want = 0;
                for (int i = 0; i < size; i++) want |= Integer.bitCount(all.get(i) ^ read) <= k ? 1 << i : 0;
                Check.due("meant(" + read + ", " + k + ")", x.meant(read, k), want);
            }
        }
    }

    private static void pairExamples() {
        CenturyTown x = Check.told("smith;smith;smith;smith;smith", "likes 0 1;likes 1 0;likes 1 2;likes 2 1;likes 2 3;likes 3 2");
        Check.due("pairs(0)", x.pairs(0), 2);
        Check.due("pairs(1)", x.pairs(1), 0);
        Check.due("pairs(2)", x.pairs(2), 1);
        x.marry(1, 2);
        for (int what = 0; what < 3; what++) Check.due("none more", x.pairs(what), what == 0 ? 0 : Check.NONE);
        x.undo();
        x.marry(0, 1);
        Check.due("pairs(0)", x.pairs(0), 1);
        Check.due("pairs(1)", x.pairs(1), 2);
        Check.due("pairs(2)", x.pairs(2), 3);
        Check.due("pairs(3)", x.pairs(3), Check.OUTSIDE);
        Check.due("pairs(-1)", x.pairs(-1), Check.OUTSIDE);
        CenturyTown star = Check.told("smith;smith;smith;smith", "likes 0 1;likes 1 0;likes 0 2;likes 2 0;likes 1 3;likes 3 1");
        Check.due("two pairs", star.pairs(0), 2);
        Check.due("the first", star.pairs(1), 0);
        Check.due("not the nearest one", star.pairs(2), 2);
    }

    private static int mostPairs(boolean[][] may, int from, int wed) {
        int best = 0;
        for (int a = from; a < 5; a++) {
            for (int b = a + 1; b < 5; b++) {
                if (may[a][b] && (wed >> a & 1) == 0 && (wed >> b & 1) == 0) {
                    best = Math.max(best, 1 + mostPairs(may, a + 1, wed | 1 << a | 1 << b));
                }
            }
        }
        return best;
    }

    private static void pairsByTryingAll() {
        Random random = new Random(30);
        for (int run = 0; run < 300; run++) {
            int people = random.nextInt(6);
            CenturyTown x = new CenturyTown();
            for (int i = 0; i < people; i++) Check.tell(x, "smith");
            boolean[][] likes = new boolean[5][5];
            for (int a = 0; a < people; a++) {
                for (int b = 0; b < people; b++) {
                    likes[a][b] = a != b && random.nextInt(3) > 0;
                    if (likes[a][b]) Check.tell(x, "likes " + a + " " + b);
                }
            }
            if (run % 3 == 0) x.marry(random.nextInt(5), random.nextInt(5));
            boolean[][] may = new boolean[5][5];
            for (int a = 0; a < people; a++) {
                for (int b = 0; b < people; b++) {
                    may[a][b] = likes[a][b] && likes[b][a] && x.one(a, 3) == -1 && x.one(b, 3) == -1;
                }
            }
            int most = mostPairs(may, 0, 0);
            int first = Check.NONE;
            int second = Check.NONE;
            for (int a = 4; a >= 0; a--) {
                for (int b = 4; b > a; b--) {
                    if (may[a][b] && 1 + mostPairs(may, a + 1, 1 << a | 1 << b) == most) {
                        first = a;
                        second = b;
                    }
                }
            }
            Check.due("pairs(0)", x.pairs(0), most);
            Check.due("pairs(1)", x.pairs(1), first);
            Check.due("pairs(2)", x.pairs(2), second);
        }
    }

    private static void ballotExamples() {
        CenturyTown none = new CenturyTown();
        Check.due("ballot(0), nobody", none.ballot(0), Check.NOT);
        Check.due("ballot(10), nobody", none.ballot(10), Check.OUTSIDE);
        Check.due("swing(), nobody", none.swing(), 0);
        CenturyTown one = Check.told("smith");
        Check.due("points without BALLOTS", one.points(0), 0);
        Check.due("mayor without BALLOTS", one.mayor(1), Check.NONE);
        Check.due("ballot(1) of one", one.ballot(1), Check.OUTSIDE);
        for (int i = 1; i <= 9; i++) Check.due("ballot(0) of one", one.ballot(0), i);
        Check.due("a tenth", one.ballot(0), Check.FULL);
        Check.due("OUTSIDE ahead of FULL", one.ballot(1), Check.OUTSIDE);
        Check.due("mayor(0)", one.mayor(0), 0);
        Check.due("swing() of one", one.swing(), 0);
        CenturyTown five = Check.told("smith;smith;smith;smith;smith");
        int[] off = {-1, -1234, 0, 1235, 11234, 1233, 43211, 101234, 543210, Integer.MAX_VALUE, Integer.MIN_VALUE};
        for (int digits : off) Check.due("ballot(" + digits + ")", five.ballot(digits), Check.OUTSIDE);
        Check.due("ballot(1234)", five.ballot(1234), 1);
        Check.due("ballot(43210)", five.ballot(43210), 2);
        Check.due("mayor by firsts, the least", five.mayor(0), 0);
        Check.due("ballot(43201)", five.ballot(43201), 3);
        Check.due("mayor by firsts", five.mayor(0), 4);
        int[] points = {5, 4, 6, 7, 8};
        for (int i = 0; i < 5; i++) Check.due("points(" + i + ")", five.points(i), points[i]);
        Check.due("mayor by points", five.mayor(1), 4);
        Check.due("points(5)", five.points(5), Check.UNKNOWN);
        Check.due("points(-1)", five.points(-1), Check.UNKNOWN);
        Check.due("mayor(2)", five.mayor(2), Check.OUTSIDE);
        Check.due("mayor(-1)", five.mayor(-1), Check.OUTSIDE);
        CenturyTown split = Check.told("smith;smith;smith");
        int[] rows = {12, 12, 120, 120, 210};
        for (int row : rows) split.ballot(row);
        Check.due("by firsts", split.mayor(0), 0);
        Check.due("by points", split.mayor(1), 1);
        Check.due("swing()", split.swing(), 16);
    }

    private static void rowsOf(int people, int[] row, int depth, List<int[]> all) {
        if (depth == people) {
            all.add(row.clone());
            return;
        }
        for (int one = 0; one < people; one++) {
            boolean in = false;
            for (int i = 0; i < depth; i++) in |= row[i] == one;
            if (in) continue;
            row[depth] = one;
            rowsOf(people, row, depth + 1, all);
        }
    }

    private static int mayor(List<int[]> ballots, int people, int rule) {
        int[] sums = new int[people];
        for (int[] row : ballots) {
            for (int i = 0; i < people; i++) sums[row[i]] += rule == 0 ? (i == 0 ? 1 : 0) : people - 1 - i;
        }
        int best = 0;
        for (int i = 0; i < people; i++) best = sums[i] > sums[best] ? i : best;
        return best;
    }

    private static int ahead(int[] row, int one) {
        int place = 0;
        while (row[place] != one) place++;
        return place;
    }

    private static int swing(List<int[]> ballots, List<int[]> rows, int people) {
        int now = mayor(ballots, people, 0);
        int bits = 0;
        for (int i = 0; i < ballots.size(); i++) {
            int[] own = ballots.get(i);
            for (int[] otherwise : rows) {
                ballots.set(i, otherwise);
                int then = mayor(ballots, people, 0);
                if (ahead(own, then) < ahead(own, now)) bits |= 1 << i;
            }
            ballots.set(i, own);
        }
        return bits;
    }

    private static void ballotsByTryingAll() {
        Random random = new Random(34);
        for (int run = 0; run < 200; run++) {
            int people = 1 + random.nextInt(5);
            List<int[]> rows = new ArrayList<>();
            rowsOf(people, new int[people], 0, rows);
            CenturyTown x = new CenturyTown();
            for (int i = 0; i < people; i++) Check.tell(x, "reeve");
            List<int[]> ballots = new ArrayList<>();
            for (int i = 1 + random.nextInt(9); i > 0; i--) {
                int[] row = rows.get(random.nextInt(rows.size()));
                int digits = 0;
                for (int one : row) digits = digits * 10 + one;
                ballots.add(row);
                Check.due("ballot(" + digits + ")", x.ballot(digits), ballots.size());
                Check.due("mayor(0)", x.mayor(0), mayor(ballots, people, 0));
                Check.due("mayor(1)", x.mayor(1), mayor(ballots, people, 1));
                Check.due("swing()", x.swing(), swing(ballots, rows, people));
            }
            for (int one = 0; one < people; one++) {
                int want = 0;
                for (int[] row : ballots) want += people - 1 - ahead(row, one);
                Check.due("points(" + one + ")", x.points(one), want);
            }
        }
    }

    public static void main(String[] args) {
        wordingExamples();
        wordingsByTryingAll();
        pairExamples();
        pairsByTryingAll();
        ballotExamples();
        ballotsByTryingAll();
        Check.finish("TogetherTest");
    }
}
