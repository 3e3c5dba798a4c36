import java.util.function.Consumer;

/** Edges of THE TEXT: each sentence of Terms, and of promises 1 to 5, that names one has a test of its own. */
public final class EdgeTextTest {
    private static final String WORKS_6 =
        "work 0 1 1 1;work 0 1 1 1;work 0 1 1 1;work 0 1 1 1;work 0 1 1 1;work 0 1 1 1";
    private static final String GOODS_5 = "grow 1 1;wither 1 1;grow 1 1;wither 1 1;grow 1 1";

    private static void faultOf(String text, int want, String... ahead) {
        CenturyTown x = Check.told(ahead);
        Check.write(x, text);
        Check.due("fault() of '" + text + "'", x.fault(), want);
        Check.due("letters behind fault()", x.count(13), text.length());
        int clauses = 1;
        for (char c : text.toCharArray()) clauses += c == ';' ? 1 : 0;
        Check.due("town() of '" + text + "'", x.town(), want == Check.NONE ? clauses : Check.NOT);
        Check.due("letters behind town()", x.count(13), want == Check.NONE ? 0 : text.length());
    }

    private static void stands(String text, String... ahead) {
        faultOf(text, Check.NONE, ahead);
    }

    // ---- promise 1

    private static void nobody() {
        CenturyTown x = new CenturyTown();
        Check.due("PEOPLE", x.count(0), 0);
        Check.due("one(0, 0)", x.one(0, 0), Check.UNKNOWN);
        Check.due("as(0, 0)", x.as(0, 0), Check.UNKNOWN);
        Check.due("points(0)", x.points(0), Check.UNKNOWN);
        Check.due("MARRIAGES", x.count(8), 0);
        Check.due("pairs(0)", x.pairs(0), 0);
        Check.due("pairs(1)", x.pairs(1), Check.NONE);
        Check.due("pairs(2)", x.pairs(2), Check.NONE);
    }

    private static void nothingToDo() {
        CenturyTown x = new CenturyTown();
        Check.due("WORKS", x.count(1), 0);
        Check.due("work(0, 0)", x.work(0, 0), Check.UNKNOWN);
        Check.due("planOf(0)", x.planOf(0), Check.UNKNOWN);
        Check.due("plan()", x.plan(), 0);
        Check.due("shortest()", x.shortest(), 1);
        Check.due("HOLD", x.count(7), 0);
        Check.due("GOODS", x.count(2), 0);
        Check.due("good(0, 0)", x.good(0, 0), Check.UNKNOWN);
        Check.due("goodAs(0, 0)", x.goodAs(0, 0), Check.UNKNOWN);
        Check.due("sale(9, NONE)", x.sale(9, -1), 0);
        Check.due("earned", x.count(6), 0);
    }

    private static void atFirst() {
        CenturyTown x = new CenturyTown();
        Check.due("LENGTH", x.count(3), 60);
        Check.due("CENTURY", x.count(4), 0);
        Check.due("THE WORLD", x.count(5), 0);
        for (int what = 9; what < 14; what++) Check.due("count(" + what + ")", x.count(what), 0);
        Check.due("undo()", x.undo(), Check.NOT);
        Check.due("back(0)", x.back(0), Check.NOT);
        Check.due("back(1)", x.back(1), Check.NOT);
        Check.due("bears()", x.bears(), Check.NONE);
        Check.due("mayor(0)", x.mayor(0), Check.NONE);
        Check.due("mayor(1)", x.mayor(1), Check.NONE);
        Check.due("swing()", x.swing(), 0);
        Check.due("forget()", x.forget(), 0);
        Check.due("fault()", x.fault(), 0);
        Check.due("erase()", x.erase(), 0);
    }

    private static void worldStaysAtFirst() {
        for (int world = 0; world < 4; world++) {
            CenturyTown x = new CenturyTown();
            Check.due("odds above", x.odds(world, 9, 0), world == 0 ? 1 : 0);
            Check.due("odds below", x.odds(world, 9, 1), 1);
            x.sign(world, 9, 1);
            Check.due("likely above", x.likely(world, 0, 0), 1);
            Check.due("likely below", x.likely(world, 0, 1), 1);
        }
        CenturyTown x = new CenturyTown();
        for (int z = 0; z < 30; z++) x.sleep(z);
        Check.due("THE WORLD", x.count(5), 0);
    }

    // ---- promise 2

    private static void letterBounds() {
        Check.bounds("write", CenturyTown::new, 0, 255, Check.OUTSIDE, CenturyTown::write);
        Check.bounds("write", Towns::busy, 0, 255, Check.OUTSIDE, CenturyTown::write);
    }

    private static void howManyItHas() {
        CenturyTown x = new CenturyTown();
        for (int i = 1; i <= 160; i++) {
            Check.due("write", x.write(i % 256), i);
            Check.due("letters", x.count(13), i);
        }
    }

    private static void aLetterTooMany() {
        for (int letter = 0; letter < 256; letter += 51) {
            int n = letter;
            Check.refused("the 161st letter " + n, Towns::lettered, x -> x.write(n), Check.FULL);
        }
        CenturyTown x = Towns.lettered();
        Check.due("the 160 stand", x.town(), 1);
        Check.due("LENGTH", x.count(3), 7);
        Check.due("room again behind town()", x.write('s'), 1);
        CenturyTown y = Towns.lettered();
        y.erase();
        Check.due("room again behind erase()", y.write('s'), 1);
    }

    private static void outsideAheadOfFull() {
        Check.refused("write(256)", Towns::lettered, x -> x.write(256), Check.OUTSIDE);
        Check.refused("write(-1)", Towns::lettered, x -> x.write(-1), Check.OUTSIDE);
    }

    private static void readToTheLastLetter() {
        faultOf(" ".repeat(159) + "x", 159);
        faultOf(" ".repeat(160), 160);
        faultOf("length" + " ".repeat(154), 160);
        stands("length" + " ".repeat(153) + "9");
        stands(" ".repeat(155) + "still");
        faultOf(" ".repeat(154) + "still;", 160);
    }

    // ---- promise 3

    private static void erased() {
        CenturyTown x = new CenturyTown();
        Check.due("empty", x.erase(), 0);
        x.write('x');
        Check.due("one letter", x.erase(), 1);
        Check.due("empty again", x.erase(), 0);
        Check.write(x, " ".repeat(160));
        Check.due("full", x.erase(), 160);
        Check.due("letters", x.count(13), 0);
        Check.due("fault()", x.fault(), 0);
        Check.due("town()", x.town(), Check.NOT);
        Check.write(x, "smith");
        Check.due("what was there ahead is not read", x.town(), 1);
    }

    private static void erasedAlone() {
        CenturyTown x = Towns.busy();
        CenturyTown y = Towns.busy();
        Check.due("erase()", x.erase(), 8);
        Check.same("the day", Check.day(x), Check.day(y));
        for (int what = 9; what < 13; what++) Check.due("count(" + what + ")", x.count(what), y.count(what));
        Check.due("kept", x.back(0), 1);
    }

    // ---- promise 4, and the clauses of Terms

    /** The clause with plain numbers, but for one that is put in the place of another. */
    private static String clauseOf(String word, int[] plain, int place, String put) {
        StringBuilder s = new StringBuilder(word);
        for (int i = 0; i < plain.length; i++) {
            s.append(' ').append(i == place ? put : String.valueOf(plain[i]));
        }
        return s.toString();
    }

    private static int startOf(String word, int[] plain, int place) {
        StringBuilder s = new StringBuilder(word);
        for (int i = 0; i < place; i++) s.append(' ').append(plain[i]);
        return s.length() + 1;
    }

    /** A number of a clause: its least and greatest stand, with a 0 ahead too; all else has its FAULT at it. */
    private static void numberOf(String word, int[] plain, int place, int least, int greatest) {
        int at = startOf(word, plain, place);
        boolean paired = place < 2 && (word.equals("likes") || word.equals("world"));
        int[] inside = {least, least + 1, greatest - 1, greatest};
        for (int number : inside) {
            if (paired && number == plain[1 - place]) continue;
            stands(clauseOf(word, plain, place, String.valueOf(number)), Check.FIVE);
            if (number < 10) stands(clauseOf(word, plain, place, "0" + number), Check.FIVE);
        }
        if (least > 0) {
            faultOf(clauseOf(word, plain, place, String.valueOf(least - 1)), at, Check.FIVE);
            faultOf(clauseOf(word, plain, place, "0" + (least - 1)), at, Check.FIVE);
        }
        faultOf(clauseOf(word, plain, place, String.valueOf(greatest + 1)), at, Check.FIVE);
        String[] never = {"-1", "99999999999999999999", "000", "0" + (greatest < 10 ? "0" : "") + greatest, "x", "town",
            ";", ".", "+1", "4294967297"};
        for (String put : never) faultOf(clauseOf(word, plain, place, put), at, Check.FIVE);
    }

    private static void endsTooSoon(String word, int[] plain) {
        for (int place = 0; place < plain.length; place++) {
            String begun = clauseOf(word, plain, -1, "").substring(0, startOf(word, plain, place));
            faultOf(begun, begun.length(), Check.FIVE);
            String bare = begun.substring(0, begun.length() - 1);
            faultOf(bare, bare.length(), Check.FIVE);
            faultOf(bare + ";still", bare.length(), Check.FIVE);
            faultOf(bare + "   ", bare.length() + 3, Check.FIVE);
        }
        String whole = clauseOf(word, plain, -1, "");
        stands(whole, Check.FIVE);
        faultOf(whole + " 1", whole.length() + 1, Check.FIVE);
        faultOf(whole + " still", whole.length() + 1, Check.FIVE);
        faultOf(whole + ".", whole.length(), Check.FIVE);
    }

    private static void workNumbers() {
        int[] plain = {1, 30, 5, 25};
        numberOf("work", plain, 0, 0, 2);
        numberOf("work", plain, 1, 1, 60);
        numberOf("work", plain, 2, 1, 9);
        numberOf("work", plain, 3, 0, 50);
        endsTooSoon("work", plain);
    }

    private static void goodNumbers() {
        int[] plain = {50, 5};
        numberOf("grow", plain, 0, 0, 99);
        numberOf("grow", plain, 1, 0, 9);
        numberOf("wither", plain, 0, 0, 99);
        numberOf("wither", plain, 1, 0, 9);
        endsTooSoon("grow", plain);
        endsTooSoon("wither", plain);
    }

    private static void lengthNumbers() {
        numberOf("length", new int[] {50}, 0, 1, 99);
        endsTooSoon("length", new int[] {50});
    }

    private static void worldNumbers() {
        int[] plain = {1, 2, 5};
        numberOf("world", plain, 0, 0, 3);
        numberOf("world", plain, 1, 0, 3);
        numberOf("world", plain, 2, 0, 9);
        endsTooSoon("world", plain);
    }

    private static void likesNumbers() {
        int[] plain = {1, 2};
        numberOf("likes", plain, 0, 0, 4);
        numberOf("likes", plain, 1, 0, 4);
        endsTooSoon("likes", plain);
    }

    private static void wordsAlone() {
        String[] alone = {"town", "smith", "mason", "scribe", "reeve", "still"};
        for (String word : alone) {
            stands(word);
            faultOf(word + " 0", word.length() + 1);
            faultOf(word + " " + word, word.length() + 1);
            faultOf(word + word, 0);
            faultOf(word.substring(1), 0);
            faultOf(word.substring(0, word.length() - 1), 0);
        }
    }

    private static void eachLetterOfAWord() {
        String[] plain = {"town", "smith", "mason", "scribe", "reeve", "likes 0 1", "work 0 1 1 0", "grow 0 0", "wither 0 0",
            "length 1", "world 0 1 0", "still"};
        for (String clause : plain) {
            stands(clause, "smith;smith");
            int letters = clause.indexOf(' ') < 0 ? clause.length() : clause.indexOf(' ');
            for (int i = 0; i < letters; i++) {
                faultOf(clause.substring(0, i) + "q" + clause.substring(i + 1), 0, "smith;smith");
            }
            faultOf(clause.substring(0, letters) + "q" + clause.substring(letters), 0, "smith;smith");
            faultOf("q" + clause, 0, "smith;smith");
        }
    }

    private static void leastAndGreatestTold() {
        CenturyTown x = Check.told("work 0 1 1 0;work 2 60 9 50;grow 0 0;grow 99 9;wither 0 0;wither 99 9;length 1");
        int[][] works = {{0, 1, 1, 0}, {2, 60, 9, 50}};
        for (int work = 0; work < 2; work++) {
            for (int what = 0; what < 4; what++) Check.due("work(" + work + ", " + what + ")", x.work(work, what), works[work][what]);
        }
        int[] now = {0, 99, 0, 99};
        int[] next = {0, 108, 0, 90};
        for (int good = 0; good < 4; good++) {
            Check.due("good(" + good + ", 0)", x.good(good, 0), now[good]);
            Check.due("goodAs(" + good + ", 0)", x.goodAs(good, 0), next[good]);
        }
        Check.due("the least LENGTH", x.count(3), 1);
        Check.tell(x, "length 99;world 0 3 9");
        Check.due("the greatest LENGTH", x.count(3), 99);
        Check.due("the greatest CHANCE", x.odds(3, 1, 0), 9);
        Check.due("the greatest CHANCE, tenths", x.odds(3, 1, 1), 10);
        Check.tell(x, "world 0 1 0");
        Check.due("the least CHANCE", x.odds(1, 1, 0), 0);
        Check.tell(x, "world 0 1 01;length 07");
        Check.due("a 0 ahead", x.odds(1, 1, 0), 1);
        Check.due("a 0 ahead", x.count(3), 7);
    }

    private static void unlikeThemselves() {
        for (int one = 0; one < 5; one++) {
            faultOf("likes " + one + " " + one, 8, Check.FIVE);
            faultOf("likes " + one + " 0" + one, 8, Check.FIVE);
            faultOf("likes 0" + one + " " + one, 9, Check.FIVE);
        }
        for (int world = 0; world < 4; world++) {
            faultOf("world " + world + " " + world + " 1", 8);
            faultOf("world " + world + " 0" + world + " 1", 8);
            faultOf("world " + world + " " + world, 8);
        }
    }

    private static void peopleSuchAsThereAre() {
        faultOf("likes 0 1", 6);
        faultOf("smith;likes 0 1", 14);
        faultOf("smith;likes 1 0", 12);
        stands("smith;smith;likes 0 1;likes 1 0");
        faultOf("smith;likes 0 1;smith", 14);
        stands("smith;likes 0 1", "smith");
        faultOf("town;likes 0 1", 11, Check.FIVE);
        faultOf("town;smith;smith;likes 0 2", 25, Check.FIVE);
        faultOf("likes 4 5", 8, Check.FIVE);
        faultOf("likes 5 4", 6, Check.FIVE);
    }

    private static void aSixthOfPeople() {
        String[] kinds = {"smith", "mason", "scribe", "reeve"};
        for (String kind : kinds) {
            faultOf(Check.FIVE + ";" + kind, 31);
            faultOf(kind, 0, Check.FIVE);
            faultOf("still; " + kind + ";still", 7, Check.FIVE);
            stands("town;" + kind, Check.FIVE);
            String four = kind + ";" + kind + ";" + kind + ";" + kind;
            stands(kind, four);
            faultOf(kind + ";" + kind, kind.length() + 1, four);
        }
        CenturyTown x = Check.told(Check.FIVE);
        Check.due("five", x.count(0), 5);
        Check.due("the fifth", x.one(4, 0), 0);
    }

    private static void aSeventhWork() {
        stands(WORKS_6);
        faultOf(WORKS_6 + ";work 0 1 1 1", WORKS_6.length() + 1);
        faultOf("work 0 1 1 1", 0, WORKS_6);
        faultOf("work 9", 0, WORKS_6);
        faultOf("work", 0, WORKS_6);
        faultOf("work 0 1 1 1;work 2 1 1 1", 13, WORKS_6.substring(13));
        stands("town;work 0 1 1 1", WORKS_6);
        Check.due("six", Check.told(WORKS_6).count(1), 6);
    }

    private static void aSixthGood() {
        stands(GOODS_5);
        faultOf(GOODS_5 + ";grow 1 1", GOODS_5.length() + 1);
        faultOf(GOODS_5 + ";wither 1 1", GOODS_5.length() + 1);
        faultOf("grow 1 1", 0, GOODS_5);
        faultOf("wither 1 1", 0, GOODS_5);
        faultOf("grow 100", 0, GOODS_5);
        faultOf("wither", 0, GOODS_5);
        faultOf("wither 1 1;wither 1 1", 11, GOODS_5.substring(9));
        stands("town;grow 1 1;wither 1 1", GOODS_5);
        Check.due("five", Check.told(GOODS_5).count(2), 5);
    }

    private static void fourteenClauses() {
        String many = "still" + ";still".repeat(13);
        stands(many);
        stands(many + "  ");
        faultOf(many + ";still", many.length());
        faultOf(many + ";", many.length());
        faultOf(many + " ;smith", many.length() + 1);
        faultOf(many + ";;", many.length());
        faultOf("still" + ";still".repeat(12) + ";", many.length() - 5);
        CenturyTown x = new CenturyTown();
        Check.due("town() of fourteen", Check.tell(x, many), 14);
        Check.due("town() of one", Check.tell(x, "still"), 1);
    }

    private static void clausesBetween() {
        faultOf(";", 0);
        faultOf(";still", 0);
        faultOf("still;", 6);
        faultOf("still; ", 7);
        faultOf("still;;still", 6);
        faultOf("still; ;still", 7);
        faultOf("still,still", 5);
        stands("still ; still");
    }

    private static void anEmptyText() {
        faultOf("", 0);
        faultOf(" ", 1);
        faultOf("     ", 5);
        Check.refused("town()", CenturyTown::new, CenturyTown::town, Check.NOT);
    }

    private static void rowsOfLettersAndDigits() {
        faultOf("`town", 0);
        faultOf("{town", 0);
        faultOf("town`", 4);
        faultOf("town{", 4);
        faultOf("length /9", 7);
        faultOf("length :9", 7);
        faultOf("length 9/", 8);
        faultOf("length 9:", 8);
        faultOf("TOWN", 0);
        faultOf("toWn", 0);
        faultOf("length 9a", 8);
        faultOf("length a9", 7);
        faultOf("town9", 4);
        faultOf("9town", 0);
        faultOf("tow n", 0);
        faultOf("length 9 9", 9);
        faultOf("abcdefghijklmnopqrstuvwxyz", 0);
        faultOf("..", 0);
        faultOf("still..", 5);
        for (int digit = 1; digit < 10; digit++) stands("length " + digit);
        stands("length 90");
    }

    private static void anyOtherLetter() {
        for (int letter = 0; letter < 256; letter++) {
            boolean small = letter >= 'a' && letter <= 'z';
            CenturyTown x = new CenturyTown();
            Check.write(x, "still");
            x.write(letter);
            int want = letter == ' ' ? Check.NONE : letter == ';' ? 6 : small ? 0 : 5;
            Check.due("fault() of still and " + letter, x.fault(), want);
            CenturyTown y = new CenturyTown();
            y.write(letter);
            Check.write(y, "still");
            Check.due("fault() of " + letter + " and still", y.fault(), letter == ' ' ? Check.NONE : 0);
        }
    }

    private static void firstOfTwoFaults() {
        faultOf("work 3 61 10 51", 5);
        faultOf("work 2 61 10 51", 7);
        faultOf("work 2 60 10 51", 10);
        faultOf("still;x;y", 6);
        faultOf("likes 0 0;x", 6);
        faultOf("still still;x", 6);
        faultOf(Check.FIVE + ";smith;x", 31);
    }

    private static void faultChangesNothing() {
        Check.unchanged("fault()", Towns::busy, CenturyTown::fault);
        Check.unchanged("fault()", Towns::lettered, CenturyTown::fault);
        Check.unchanged("fault()", () -> faulty(), CenturyTown::fault);
    }

    /** THE TEXT would change everything, but for its last TOKEN. */
    private static CenturyTown faulty() {
        CenturyTown x = Towns.busy();
        x.erase();
        Check.write(x, "town;smith;work 0 1 1 1;grow 1 1;length 9;world 0 2 3;x");
        return x;
    }

    // ---- promise 5

    private static void townRefused() {
        Check.refused("town() with a FAULT", EdgeTextTest::faulty, CenturyTown::town, Check.NOT);
        Check.due("letters", faulty().count(13), 55);
    }

    private static void emptyThen() {
        CenturyTown x = new CenturyTown();
        Check.due("town()", Check.tell(x, "smith;smith"), 2);
        Check.due("letters", x.count(13), 0);
        Check.due("fault()", x.fault(), 0);
        Check.due("town() again", x.town(), Check.NOT);
        Check.due("PEOPLE", x.count(0), 2);
    }

    private static void earlierTextsStay() {
        CenturyTown x = Check.told(Check.FIVE + ";likes 0 4;work 2 3 4 5;grow 6 7;length 8;world 0 3 9", "still;world 3 0 1");
        Check.due("PEOPLE", x.count(0), 5);
        Check.due("LIKES", x.one(0, 1), 16);
        Check.due("WORKS", x.work(0, 3), 5);
        Check.due("GOODS", x.goodAs(0, 1), 13);
        Check.due("LENGTH", x.count(3), 8);
        Check.tell(x, "length 9");
        Check.due("another LENGTH", x.count(3), 9);
        Check.due("others stay", x.count(0), 5);
    }

    private static void inPlaceOfWhatWasTold() {
        CenturyTown x = Check.told("world 0 1 9;world 0 2 1");
        Check.due("one B for each A", x.odds(1, 1, 0), 0);
        Check.due("the last one told", x.odds(2, 1, 0), 1);
        Check.due("tenths", x.odds(2, 1, 1), 10);
        Check.tell(x, "world 1 3 5");
        Check.due("told of another A", x.odds(2, 1, 0), 1);
        Check.tell(x, "world 0 3 5");
        Check.due("in place", x.odds(2, 1, 0), 0);
        Check.due("in place", x.odds(3, 1, 0), 1);
    }

    private static void stillWhateverItIs() {
        for (int world = 0; world < 4; world++) {
            CenturyTown x = Check.told("world 0 1 9;world 1 2 9;world 2 3 9;world 3 0 9;still");
            x.sign(world, 9, 1);
            Check.due("it stays " + world, x.likely(world, 0, 0), 1);
            Check.due("it stays " + world, x.likely(world, 0, 1), 1);
            Check.tell(x, "still;world " + world + " " + (world + 1) % 4 + " 5");
            x.sign(world, 1, 1);
            Check.due("told behind it", x.likely(world, 0, 1), 2);
        }
    }

    private static void townAllAsAtFirst() {
        CenturyTown x = Check.told(Check.FIVE + ";likes 0 1;work 0 1 1 1;grow 1 1;length 99;world 0 1 9", "town");
        int[] due = {0, 0, 0, 60};
        for (int what = 0; what < 4; what++) Check.due("count(" + what + ")", x.count(what), due[what]);
        Check.due("THE WORLD stays", x.odds(0, 9, 1), 1);
        Check.tell(x, "smith;smith;work 1 2 3 4;wither 5 6");
        Check.due("LIKES none", x.one(0, 1), 0);
        Check.due("KIND", x.one(0, 0), 0);
        Check.due("KIND", x.one(1, 0), 0);
        Check.due("LENGTH", x.one(0, 2), 60);
        Check.due("the WORK is the one told", x.work(0, 0), 1);
        Check.due("the GOOD is the one told", x.goodAs(0, 2), 0);
        Check.due("it does not GROW", x.goodAs(0, 1), Check.NOT);
    }

    private static void inTheirOrder() {
        CenturyTown x = Check.told("length 9;length 8;smith;reeve;town;mason;length 7;scribe");
        Check.due("the last LENGTH", x.count(3), 7);
        Check.due("PEOPLE", x.count(0), 2);
        Check.due("first", x.one(0, 0), 1);
        Check.due("second", x.one(1, 0), 2);
    }

    /** A town in which everything has changed, then another text; each of what is due behind it is asked alone. */
    private static void behind(Consumer<CenturyTown> test) {
        CenturyTown x = Check.told("smith;reeve;likes 0 1;likes 1 0;work 0 5 9 7;work 2 5 9 7;grow 4 2;world 0 1 9");
        x.does(0, 0);
        x.marry(0, 1);
        x.sell(0);
        x.oversleep(0, 1);
        x.sleep(0);
        x.does(1, 1);
        x.oversleep(1, 1);
        x.keep(0);
        x.keep(1);
        x.wording(3);
        x.ballot(10);
        x.sign(0, 0, 1);
        Check.due("all is changed", x.count(5) + x.count(4) + x.count(8) + x.one(0, 4) + x.one(1, 5), 5);
        Check.due("town()", Check.tell(x, "length 50"), 1);
        test.accept(x);
    }

    private static void behindThem() {
        Check.edge("Terms: behind them it is CENTURY 0", () -> behind(x -> {
            Check.due("CENTURY", x.count(4), 0);
            Check.due("WORTH", x.good(0, 0), 4);
        }));
        Check.edge("Terms: behind them THE WORLD is 0", () -> behind(x -> {
            Check.due("THE WORLD", x.count(5), 0);
            Check.due("odds", x.odds(0, 0, 0), 1);
        }));
        Check.edge("Terms: behind them no WORK HOLDS", () -> behind(x -> {
            Check.due("HOLD", x.count(7), 0);
            for (int work = 0; work < 2; work++) Check.due("FALLS", x.work(work, 4), 0);
        }));
        Check.edge("Terms: behind them nobody is married", () -> behind(x -> {
            Check.due("MARRIAGES", x.count(8), 0);
            for (int one = 0; one < 2; one++) Check.due("married", x.one(one, 3), Check.NONE);
            Check.due("they may anew", x.marry(1, 0), 1);
        }));
        Check.edge("Terms: behind them nobody is ASLEEP", () -> behind(x -> {
            for (int one = 0; one < 2; one++) Check.due("ASLEEP", x.one(one, 4), 0);
            for (int one = 0; one < 2; one++) Check.due("to oversleep", x.one(one, 5), 0);
            Check.due("he can do it", x.does(0, 0), 45);
        }));
        Check.edge("Terms: behind them nothing was sold", () -> behind(x -> {
            Check.due("SOLD", x.good(0, 1), 0);
            Check.due("earned", x.count(6), 0);
            Check.due("sell(0)", x.sell(0), 4);
        }));
        Check.edge("Terms: behind them no MINUTES were used", () -> behind(x -> {
            for (int one = 0; one < 2; one++) Check.due("MINUTES", x.one(one, 2), 50);
        }));
        Check.edge("Terms: behind them there are no WORDINGS", () -> behind(x -> {
            Check.due("WORDINGS", x.count(9), 0);
            Check.due("bears()", x.bears(), Check.NONE);
            Check.due("meant(3, 6)", x.meant(3, 6), 0);
            Check.due("wording(3)", x.wording(3), 1);
        }));
        Check.edge("Terms: behind them there are no BALLOTS", () -> behind(x -> {
            Check.due("BALLOTS", x.count(10), 0);
            Check.due("mayor(0)", x.mayor(0), Check.NONE);
            Check.due("points(1)", x.points(1), 0);
            Check.due("ballot(1)", x.ballot(1), 1);
        }));
        Check.edge("Terms: behind them there are no SIGNS", () -> behind(x -> {
            Check.due("SIGNS", x.count(11), 0);
            Check.due("likely(2, 0, 1)", x.likely(2, 0, 1), 4);
            Check.due("forget()", x.forget(), 0);
        }));
        Check.edge("Terms: behind them nothing is kept", () -> behind(x -> {
            for (int k = 0; k < 2; k++) Check.due("back(" + k + ")", x.back(k), Check.NOT);
        }));
        Check.edge("Terms: behind them nothing can be undone", () -> behind(x -> {
            Check.due("can be undone", x.count(12), 0);
            Check.due("undo()", x.undo(), Check.NOT);
            x.sleep(0);
            Check.due("a deed behind it", x.undo(), 0);
        }));
    }

    public static void main(String[] args) {
        Check.edge("1: nobody", EdgeTextTest::nobody);
        Check.edge("1: nothing to do", EdgeTextTest::nothingToDo);
        Check.edge("Terms: LENGTH 60, THE WORLD 0, none at first", EdgeTextTest::atFirst);
        Check.edge("Terms: THE WORLD stays; none at first", EdgeTextTest::worldStaysAtFirst);
        Check.edge("2: a letter (its number, 0 .. 255); OUTSIDE", EdgeTextTest::letterBounds);
        Check.edge("2: how many it has", EdgeTextTest::howManyItHas);
        Check.edge("2: 160 at most; FULL", EdgeTextTest::aLetterTooMany);
        Check.edge("2: OUTSIDE ahead of FULL", EdgeTextTest::outsideAheadOfFull);
        Check.edge("Terms: THE TEXT is a row of letters, 160 at most", EdgeTextTest::readToTheLastLetter);
        Check.edge("3: how many letters it had", EdgeTextTest::erased);
        Check.edge("3: THE TEXT is empty, and nothing else", EdgeTextTest::erasedAlone);
        Check.edge("Terms: work S M H V", EdgeTextTest::workNumbers);
        Check.edge("Terms: grow V G, wither V G", EdgeTextTest::goodNumbers);
        Check.edge("Terms: length L", EdgeTextTest::lengthNumbers);
        Check.edge("Terms: world A B C", EdgeTextTest::worldNumbers);
        Check.edge("Terms: likes P Q", EdgeTextTest::likesNumbers);
        Check.edge("Terms: town, smith, mason, scribe, reeve, still", EdgeTextTest::wordsAlone);
        Check.edge("Terms: each is one of: as written here", EdgeTextTest::eachLetterOfAWord);
        Check.edge("Terms: the least and the greatest numbers are told", EdgeTextTest::leastAndGreatestTold);
        Check.edge("Terms: P, Q unlike; B not A", EdgeTextTest::unlikeThemselves);
        Check.edge("Terms: PEOPLE such as there are behind the CLAUSES ahead", EdgeTextTest::peopleSuchAsThereAre);
        Check.edge("Terms: a sixth of PEOPLE cannot stand there (at its word)", EdgeTextTest::aSixthOfPeople);
        Check.edge("Terms: a seventh WORK cannot stand there", EdgeTextTest::aSeventhWork);
        Check.edge("Terms: a sixth GOOD cannot stand there", EdgeTextTest::aSixthGood);
        Check.edge("Terms: CLAUSES, 14 at most", EdgeTextTest::fourteenClauses);
        Check.edge("Terms: CLAUSES with ; between", EdgeTextTest::clausesBetween);
        Check.edge("Terms: at the end, if it comes too soon: no letter, blanks alone", EdgeTextTest::anEmptyText);
        Check.edge("Terms: a TOKEN is a row of small letters, a row of digits", EdgeTextTest::rowsOfLettersAndDigits);
        Check.edge("Terms: a TOKEN is any other letter; blanks between", EdgeTextTest::anyOtherLetter);
        Check.edge("Terms: a FAULT is at the first TOKEN that cannot stand there", EdgeTextTest::firstOfTwoFaults);
        Check.edge("4: fault() changes nothing", EdgeTextTest::faultChangesNothing);
        Check.edge("5: NOT: it has a FAULT", EdgeTextTest::townRefused);
        Check.edge("5: it is empty then", EdgeTextTest::emptyThen);
        Check.edge("Terms: what earlier texts told stays", EdgeTextTest::earlierTextsStay);
        Check.edge("Terms: world: in place of what was told of A", EdgeTextTest::inPlaceOfWhatWasTold);
        Check.edge("Terms: still: THE WORLD stays, whatever it is", EdgeTextTest::stillWhateverItIs);
        Check.edge("Terms: town: all as at first", EdgeTextTest::townAllAsAtFirst);
        Check.edge("Terms: CLAUSES are done in their order", EdgeTextTest::inTheirOrder);
        behindThem();
        Check.finish("EdgeTextTest");
    }
}
