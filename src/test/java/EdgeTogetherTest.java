import java.util.Arrays;

/** Edges of WORDINGS, MARRIAGES, BALLOTS: each sentence of promises 27 to 34 that names one has a test of its own. */
public final class EdgeTogetherTest {
    private static final String THREE = "smith;smith;smith";

    private static CenturyTown worded(int... all) {
        CenturyTown x = new CenturyTown();
        for (int bits : all) x.wording(bits);
        return x;
    }

    // ---- promise 27

    private static void wordingBounds() {
        Check.bounds("wording", CenturyTown::new, 0, 63, Check.OUTSIDE, CenturyTown::wording);
        Check.bounds("wording", Towns::busy, 0, 63, Check.OUTSIDE, CenturyTown::wording);
    }

    private static void wordingsUnlike() {
        int[] all = {0, 63, 5, 62, 1, 32};
        for (int size = 1; size <= 6; size++) {
            int n = size;
            Check.due("wording", worded(Arrays.copyOf(all, n - 1)).wording(all[n - 1]), n);
            for (int i = 0; i < n; i++) {
                int again = all[i];
                Check.refused("wording(" + again + ") again, of " + n, () -> worded(Arrays.copyOf(all, n)),
                    x -> x.wording(again), Check.NOT);
            }
        }
    }

    private static void sixWordings() {
        CenturyTown x = new CenturyTown();
        for (int i = 1; i <= 6; i++) {
            Check.due("wording", x.wording(i * 7), i);
            Check.due("WORDINGS", x.count(9), i);
        }
        Check.refused("a seventh", Towns::talkative, y -> y.wording(63), Check.FULL);
        Check.refused("a seventh", Towns::talkative, y -> y.wording(1), Check.FULL);
    }

    private static void wordingRefusedInOrder() {
        Check.refused("OUTSIDE ahead of FULL", Towns::talkative, x -> x.wording(64), Check.OUTSIDE);
        Check.refused("OUTSIDE ahead of FULL", Towns::talkative, x -> x.wording(-1), Check.OUTSIDE);
        for (int i = 0; i < 6; i++) {
            int bits = 9 * i;
            Check.refused("NOT ahead of FULL", Towns::talkative, x -> x.wording(bits), Check.NOT);
        }
    }

    // ---- promise 28

    private static void bearsNoneAndAlone() {
        Check.due("no WORDINGS", new CenturyTown().bears(), Check.NONE);
        for (int bits = 0; bits < 64; bits++) Check.due("one alone: " + bits, worded(bits).bears(), 6);
        Check.unchanged("bears()", Towns::talkative, CenturyTown::bears);
    }

    private static void bearsByLettersApart() {
        int[] apart = {0, 1, 3, 7, 15, 31, 63};
        int[] due = {0, 0, 0, 1, 1, 2, 2};
        for (int n = 1; n <= 6; n++) {
            Check.due(n + " letters apart", worded(0, apart[n]).bears(), due[n]);
            Check.due(n + " letters apart", worded(21, 21 ^ apart[n]).bears(), due[n]);
        }
        Check.due("the nearest two of three", worded(0, 63, 7).bears(), 1);
        Check.due("the nearest two of three", worded(0, 63, 1).bears(), 0);
        Check.due("the last two of six", worded(0, 63, 7, 56, 21, 23).bears(), 0);
        Check.due("four, three apart", worded(0, 7, 25, 30).bears(), 1);
    }

    // ---- promise 29

    private static void meantBounds() {
        Check.bounds("meant(.., 0)", Towns::busy, 0, 63, Check.OUTSIDE, (x, n) -> x.meant(n, 0));
        Check.bounds("meant(0, ..)", Towns::busy, 0, 6, Check.OUTSIDE, (x, n) -> x.meant(0, n));
        Check.bounds("meant(.., 6) of none", CenturyTown::new, 0, 63, Check.OUTSIDE, (x, n) -> x.meant(n, 6));
        Check.refused("meant(64, 7)", Towns::busy, x -> x.meant(64, 7), Check.OUTSIDE);
    }

    private static void meantOfNone() {
        for (int k = 0; k < 7; k++) Check.due("meant(0, " + k + ")", new CenturyTown().meant(0, k), 0);
    }

    private static void lettersAtMost() {
        int[] apart = {0, 1, 3, 7, 15, 31, 63};
        for (int n = 0; n <= 6; n++) {
            for (int k = 0; k <= 6; k++) {
                Check.due(n + " letters apart, " + k + " at most", worded(42).meant(42 ^ apart[n], k), n <= k ? 1 : 0);
            }
        }
    }

    private static void meantByBits() {
        CenturyTown x = worded(0, 1, 2, 4, 8, 63);
        int[] due = {1, 31, 31, 31, 31, 31, 63};
        for (int k = 0; k < 7; k++) Check.due("meant(0, " + k + ")", x.meant(0, k), due[k]);
        Check.due("the last alone", x.meant(63, 0), 32);
        Check.due("the last alone", x.meant(63, 4), 32);
        Check.due("all but the first", x.meant(63, 5), 62);
        Check.unchanged("meant(0, 6)", Towns::talkative, y -> y.meant(0, 6));
    }

    // ---- promise 30

    private static void pairsBounds() {
        Check.bounds("pairs", CenturyTown::new, 0, 2, Check.OUTSIDE, CenturyTown::pairs);
        Check.bounds("pairs", Towns::busy, 0, 2, Check.OUTSIDE, CenturyTown::pairs);
        Check.unchanged("pairs(2)", Towns::busy, x -> x.pairs(2));
    }

    private static void pairsAre(CenturyTown x, int most, int lesser, int greater) {
        Check.due("pairs(0)", x.pairs(0), most);
        Check.due("pairs(1)", x.pairs(1), lesser);
        Check.due("pairs(2)", x.pairs(2), greater);
    }

    private static String both(int one, int other) {
        return "likes " + one + " " + other + ";likes " + other + " " + one;
    }

    private static void noPairs() {
        pairsAre(new CenturyTown(), 0, Check.NONE, Check.NONE);
        pairsAre(Check.told("smith"), 0, Check.NONE, Check.NONE);
        pairsAre(Check.told(Check.FIVE), 0, Check.NONE, Check.NONE);
        pairsAre(Check.told(Check.FIVE + ";likes 0 1;likes 1 2;likes 2 0"), 0, Check.NONE, Check.NONE);
    }

    private static void likeOneAnotherAlone() {
        pairsAre(Check.told("smith;smith;likes 0 1"), 0, Check.NONE, Check.NONE);
        pairsAre(Check.told("smith;smith;likes 1 0"), 0, Check.NONE, Check.NONE);
        pairsAre(Check.told("smith;smith;" + both(0, 1)), 1, 0, 1);
        pairsAre(Check.told(Check.FIVE + ";" + both(3, 4)), 1, 3, 4);
        pairsAre(Check.told(Check.FIVE + ";" + both(0, 4)), 1, 0, 4);
    }

    private static void allLikeAll() {
        CenturyTown x = Check.told(Check.FIVE);
        for (int one = 0; one < 5; one++) {
            for (int other = 0; other < one; other++) Check.tell(x, both(other, one));
        }
        pairsAre(x, 2, 0, 1);
        x.marry(0, 1);
        pairsAre(x, 1, 2, 3);
        x.marry(4, 2);
        pairsAre(x, 0, Check.NONE, Check.NONE);
        x.undo();
        x.undo();
        x.marry(4, 1);
        pairsAre(x, 1, 0, 2);
    }

    private static void marriedMarryNoMore() {
        CenturyTown x = Check.told("smith;smith;smith;smith;" + both(0, 1) + ";" + both(1, 2) + ";" + both(2, 3));
        pairsAre(x, 2, 0, 1);
        x.marry(1, 2);
        pairsAre(x, 0, Check.NONE, Check.NONE);
        x.undo();
        x.marry(2, 3);
        pairsAre(x, 1, 0, 1);
        x.undo();
        x.marry(0, 1);
        pairsAre(x, 1, 2, 3);
    }

    private static void theOtherOneLeast() {
        pairsAre(Check.told("smith;smith;smith;" + both(0, 1) + ";" + both(0, 2)), 1, 0, 1);
        pairsAre(Check.told("smith;smith;smith;smith;" + both(0, 1) + ";" + both(0, 2) + ";" + both(1, 3)), 2, 0, 2);
        pairsAre(Check.told(Check.FIVE, both(0, 3) + ";" + both(0, 4) + ";" + both(3, 1)), 2, 0, 4);
        pairsAre(Check.told(Check.FIVE, both(1, 2) + ";" + both(1, 4) + ";" + both(2, 3)), 2, 1, 4);
    }

    private static void whoSleepsMayMarry() {
        CenturyTown x = Check.told("smith;smith;" + both(0, 1));
        x.oversleep(0, 1);
        x.sleep(0);
        pairsAre(x, 1, 0, 1);
        Check.due("marry(0, 1)", x.marry(0, 1), 1);
    }

    // ---- promise 31

    private static void rowOfAllPeople() {
        int[] off = {-1, -43210, 0, 1233, 1235, 1243 + 90000, 11234, 43211, 43219, 53210, 143210, 101234, 12340 + 100000,
            432100, 4320, 123, Integer.MAX_VALUE, Integer.MIN_VALUE};
        for (int digits : off) {
            Check.refused("ballot(" + digits + ") of five", () -> Check.told(Check.FIVE), x -> x.ballot(digits), Check.OUTSIDE);
        }
        int[] rows = {1234, 1243, 10234, 43210, 43201, 34012};
        for (int digits : rows) Check.due("ballot(" + digits + ") of five", Check.told(Check.FIVE).ballot(digits), 1);
        String[] fewer = {"smith", "smith;smith", "smith;smith;smith", "smith;smith;smith;smith"};
        int[] least = {0, 1, 12, 123};
        int[] greatest = {0, 10, 210, 3210};
        for (int people = 1; people < 5; people++) {
            String text = fewer[people - 1];
            Check.bounds("ballot of " + people, () -> Check.told(text), least[people - 1], greatest[people - 1],
                Check.OUTSIDE, CenturyTown::ballot);
            int more = people == 4 ? 43210 : greatest[people];
            Check.refused("one too many", () -> Check.told(text), x -> x.ballot(more), Check.OUTSIDE);
        }
        Check.refused("ballot(0) of two", () -> Check.told("smith;smith"), x -> x.ballot(0), Check.OUTSIDE);
        Check.refused("ballot(11) of two", () -> Check.told("smith;smith"), x -> x.ballot(11), Check.OUTSIDE);
    }

    private static void nobodyVotes() {
        Check.refused("ballot(0)", CenturyTown::new, x -> x.ballot(0), Check.NOT);
        int[] off = {-1, 1, 10, Integer.MAX_VALUE, Integer.MIN_VALUE};
        for (int digits : off) {
            Check.refused("OUTSIDE ahead of NOT: " + digits, CenturyTown::new, x -> x.ballot(digits), Check.OUTSIDE);
        }
    }

    private static void nineBallots() {
        CenturyTown x = Check.told("smith;smith");
        for (int i = 1; i <= 9; i++) {
            Check.due("ballot", x.ballot(i % 2 == 0 ? 10 : 1), i);
            Check.due("BALLOTS", x.count(10), i);
        }
        Check.refused("a tenth", Towns::talkative, y -> y.ballot(12), Check.FULL);
        Check.refused("a tenth", Towns::talkative, y -> y.ballot(210), Check.FULL);
        Check.refused("OUTSIDE ahead of FULL", Towns::talkative, y -> y.ballot(0), Check.OUTSIDE);
        Check.refused("OUTSIDE ahead of FULL", Towns::talkative, y -> y.ballot(3210), Check.OUTSIDE);
    }

    // ---- promises 32 to 34

    private static CenturyTown voted(String people, int... rows) {
        CenturyTown x = Check.told(people);
        for (int row : rows) {
            if (x.ballot(row) < 0) Check.due("ballot(" + row + ")", 0, 1);
        }
        return x;
    }

    private static void mayorBounds() {
        Check.bounds("mayor", CenturyTown::new, 0, 1, Check.OUTSIDE, CenturyTown::mayor);
        Check.bounds("mayor", Towns::talkative, 0, 1, Check.OUTSIDE, CenturyTown::mayor);
    }

    private static void noBallots() {
        Check.due("mayor(0) of nobody", new CenturyTown().mayor(0), Check.NONE);
        Check.due("mayor(1) of nobody", new CenturyTown().mayor(1), Check.NONE);
        Check.due("mayor(0)", Check.told(Check.FIVE).mayor(0), Check.NONE);
        Check.due("mayor(1)", Check.told(Check.FIVE).mayor(1), Check.NONE);
        Check.due("swing()", Check.told(Check.FIVE).swing(), 0);
        for (int one = 0; one < 5; one++) Check.due("points(" + one + ")", Check.told(Check.FIVE).points(one), 0);
    }

    private static void ofSeveralTheLeast() {
        Check.due("two alike first", voted(THREE, 210, 120).mayor(0), 1);
        Check.due("all alike first", voted(THREE, 210, 120, 12).mayor(0), 0);
        Check.due("one more", voted(THREE, 210, 120, 12, 201).mayor(0), 2);
        Check.due("two alike in POINTS", voted("smith;smith", 10, 1).mayor(1), 0);
        Check.due("two alike in POINTS", voted(THREE, 210, 120).mayor(1), 1);
        Check.due("all alike in POINTS", voted(THREE, 12, 120, 201).mayor(1), 0);
        Check.due("the last of five", voted(Check.FIVE, 43210).mayor(0), 4);
        Check.due("the last of five", voted(Check.FIVE, 43210).mayor(1), 4);
        Check.due("unlike by the two rules", voted(THREE, 12, 12, 120, 120, 210).mayor(0), 0);
        Check.due("unlike by the two rules", voted(THREE, 12, 12, 120, 120, 210).mayor(1), 1);
    }

    private static void askedAgain() {
        CenturyTown x = voted(THREE, 12, 12, 120, 120, 210);
        for (int i = 0; i < 3; i++) {
            Check.due("mayor(0) again", x.mayor(0), 0);
            Check.due("mayor(1) again", x.mayor(1), 1);
            Check.due("swing() again", x.swing(), 16);
            Check.due("points(1) again", x.points(1), 7);
        }
        Check.unchanged("mayor(0)", Towns::talkative, y -> y.mayor(0));
        Check.unchanged("mayor(1)", Towns::talkative, y -> y.mayor(1));
        Check.unchanged("points(2)", Towns::talkative, y -> y.points(2));
    }

    private static void deedsLeaveThem() {
        CenturyTown x = Towns.talkative();
        x.sleep(9);
        x.undo();
        x.undo();
        int[] due = {6, 9, 6};
        for (int what = 9; what < 12; what++) Check.due("count(" + what + ")", x.count(what), due[what - 9]);
        Check.due("meant(45, 0)", x.meant(45, 0), 32);
        Check.due("points(0)", x.points(0), 9);
        Check.due("likely(3, 0, 0)", x.likely(3, 0, 0), 0);
    }

    private static void pointsBounds() {
        Check.bounds("points", () -> voted(Check.FIVE, 1234), 0, 4, Check.UNKNOWN, CenturyTown::points);
        Check.bounds("points", Towns::talkative, 0, 2, Check.UNKNOWN, CenturyTown::points);
        Check.refused("points(0) of nobody", CenturyTown::new, x -> x.points(0), Check.UNKNOWN);
    }

    private static void leastAndMostPoints() {
        CenturyTown x = voted(Check.FIVE, 1234, 1234, 1234, 1234, 1234, 1234, 1234, 1234, 1234);
        for (int one = 0; one < 5; one++) Check.due("points(" + one + ") of nine", x.points(one), 9 * (4 - one));
        Check.due("one alone has nobody behind him", voted("smith", 0, 0).points(0), 0);
    }

    private static void swingOfNone() {
        Check.due("nobody", new CenturyTown().swing(), 0);
        Check.due("one alone", voted("smith", 0).swing(), 0);
        Check.due("all put him first", voted(THREE, 12, 21, 12).swing(), 0);
        Check.due("two of PEOPLE", voted("smith;smith", 1, 10).swing(), 0);
        Check.due("one BALLOT", voted(THREE, 210).swing(), 0);
        Check.unchanged("swing()", Towns::talkative, CenturyTown::swing);
    }

    private static void swingOfTheLeast() {
        Check.due("all alike: who put 1 first, then 2", voted(THREE, 12, 120, 201).swing(), 2);
        Check.due("1 draws level with 2, by who put 0 first", voted(THREE, 120, 201, 201, 12).swing(), 8);
        Check.due("0 draws level with 1, by who put 2 first", voted(THREE, 120, 201, 201, 12, 102).swing(), 6);
        Check.due("2 draws level with 1, which is not enough", voted(THREE, 102, 102, 210, 21).swing(), 0);
        Check.due("the lesser of two alike", voted("smith;smith;smith;smith", 1023, 2013, 2013, 3102).swing(), 8);
    }

    private static void swingOfTheNinth() {
        Check.due("the last bit", voted(THREE, 12, 12, 12, 12, 102, 102, 102, 102, 210).swing(), 256);
        Check.due("the first bit", voted(THREE, 210, 12, 12, 12, 12, 102, 102, 102, 102).swing(), 1);
    }

    private static void aheadOfTheMayor() {
        Check.due("1 would be MAYOR, but stands behind", voted(THREE, 12, 12, 102, 102, 201).swing(), 0);
        Check.due("1 would be MAYOR, and stands ahead", voted(THREE, 12, 12, 102, 102, 210).swing(), 16);
    }

    public static void main(String[] args) {
        Check.edge("27: bits, 0 .. 63; OUTSIDE", EdgeTogetherTest::wordingBounds);
        Check.edge("27: unlike; NOT: there is that one", EdgeTogetherTest::wordingsUnlike);
        Check.edge("27: WORDINGS, 6 at most; FULL", EdgeTogetherTest::sixWordings);
        Check.edge("27: OUTSIDE, NOT ahead of FULL", EdgeTogetherTest::wordingRefusedInOrder);
        Check.edge("28: NONE: there are no WORDINGS; one WORDING alone: 6", EdgeTogetherTest::bearsNoneAndAlone);
        Check.edge("Part 3: it can not be taken for another one (nearest is what is meant)", EdgeTogetherTest::bearsByLettersApart);
        Check.edge("29: OUTSIDE: bits, k (0 .. 6)", EdgeTogetherTest::meantBounds);
        Check.edge("29: no WORDINGS", EdgeTogetherTest::meantOfNone);
        Check.edge("Part 3: differs in k letters at most", EdgeTogetherTest::lettersAtMost);
        Check.edge("Part 3: MEANT by bits", EdgeTogetherTest::meantByBits);
        Check.edge("30: what 0 .. 2; OUTSIDE", EdgeTogetherTest::pairsBounds);
        Check.edge("30: NONE: there is none", EdgeTogetherTest::noPairs);
        Check.edge("Part 3: each of two who LIKE one another", EdgeTogetherTest::likeOneAnotherAlone);
        Check.edge("Part 3: the most MARRIAGES more that can be", EdgeTogetherTest::allLikeAll);
        Check.edge("Part 3: and are not married", EdgeTogetherTest::marriedMarryNoMore);
        Check.edge("Part 3: its lesser one, then the other one least", EdgeTogetherTest::theOtherOneLeast);
        Check.edge("Part 3: ASLEEP or not", EdgeTogetherTest::whoSleepsMayMarry);
        Check.edge("31: OUTSIDE: it is no row of all PEOPLE", EdgeTogetherTest::rowOfAllPeople);
        Check.edge("31: NOT: there is nobody", EdgeTogetherTest::nobodyVotes);
        Check.edge("31: BALLOTS, 9 at most; FULL", EdgeTogetherTest::nineBallots);
        Check.edge("32: by rule 0; by rule 1; OUTSIDE", EdgeTogetherTest::mayorBounds);
        Check.edge("32: NONE: there are no BALLOTS", EdgeTogetherTest::noBallots);
        Check.edge("Part 3: of several the least", EdgeTogetherTest::ofSeveralTheLeast);
        Check.edge("32 to 34: asked again, and in another order", EdgeTogetherTest::askedAgain);
        Check.edge("16: WORDINGS, BALLOTS, SIGNS are no deeds", EdgeTogetherTest::deedsLeaveThem);
        Check.edge("33: UNKNOWN", EdgeTogetherTest::pointsBounds);
        Check.edge("Part 3: for each BALLOT how many stand behind him", EdgeTogetherTest::leastAndMostPoints);
        Check.edge("34: no BALLOT could", EdgeTogetherTest::swingOfNone);
        Check.edge("Part 3: would make one MAYOR, of several the least", EdgeTogetherTest::swingOfTheLeast);
        Check.edge("34: by bits, of nine", EdgeTogetherTest::swingOfTheNinth);
        Check.edge("Part 3: who stands ahead of the MAYOR on it", EdgeTogetherTest::aheadOfTheMayor);
        Check.finish("EdgeTogetherTest");
    }
}
