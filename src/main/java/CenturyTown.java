import java.util.Arrays;

/** A town that is awake one day in a hundred years; ../shared/DOC.md says what each call answers. */
public final class CenturyTown {
    public static final int NONE = -1, UNKNOWN = -2, OUTSIDE = -3, NOT = -4, FULL = -5;

    private static final int MOST_PEOPLE = 5;
    private static final int MOST_WORKS = 6;
    private static final int MOST_GOODS = 5;
    private static final int WORLDS = 4;
    private static final int MOST_LETTERS = 160;
    private static final int MOST_CLAUSES = 14;
    private static final int MOST_UNDONE = 8;
    private static final int MOST_KEPT = 2;
    private static final int MOST_SIGNS = 6;
    private static final int MOST_WORDINGS = 6;
    private static final int MOST_BALLOTS = 9;
    private static final int MOST_DAYS = 9;
    private static final int FARTHEST = 9;
    private static final int LAST_CENTURY = 999;
    private static final int LAST_DRAW = 9999;
    private static final int FIRST_LENGTH = 60;
    private static final int LONGEST_DAY = 99;
    private static final int LETTERS_OF_WORDING = 6;
    private static final int ALL_SKILLS = 7;
    private static final int REEVE = 3;

    /** For each KIND of PEOPLE (0 .. 3) the bits of the KINDS (0 .. 5) that he may be taken as. */
    private static final int[] TAKEN_AS = {0b000111, 0b001011, 0b010001, 0b110001};

    private final Told told;
    private final Text text;
    private final Day day;
    private final Past past;
    private final Day[] kept;
    private final Planner planner;
    private final Market market;
    private final Chances chances;
    private final Couples couples;
    private final Wordings wordings;
    private final Ballots ballots;
    private int keptBits;

    public CenturyTown() {
        told = new Told();
        text = new Text();
        day = new Day();
        past = new Past();
        kept = new Day[MOST_KEPT];
        for (int k = 0; k < MOST_KEPT; k++) {
            kept[k] = new Day();
        }
        planner = new Planner();
        market = new Market();
        chances = new Chances();
        couples = new Couples();
        wordings = new Wordings();
        ballots = new Ballots();
        keptBits = 0;
        day.beginAnew(told.length);
    }

    // ---- what is told

    public int write(int letter) {
        if (isOutside(letter, 0, 255)) {
            return OUTSIDE;
        }
        return text.add(letter) ? text.size : FULL;
    }

    public int erase() {
        int had = text.size;
        text.size = 0;
        return had;
    }

    public int fault() {
        return text.findFault(told);
    }

    public int town() {
        if (text.findFault(told) != NONE) {
            return NOT;
        }
        told.copyFrom(text.draft);
        text.size = 0;
        day.beginAnew(told.length);
        past.size = 0;
        keptBits = 0;
        chances.signs = 0;
        wordings.size = 0;
        ballots.size = 0;
        return text.clauses;
    }

    public int one(int one, int what) {
        if (isNoOne(one)) {
            return UNKNOWN;
        }
        switch (what) {
            case 0:
                return told.kinds[one];
            case 1:
                return told.likings[one];
            case 2:
                return day.minutesLeft[one];
            case 3:
                return day.spouses[one];
            case 4:
                return bitOf(day.asleep, one);
            case 5:
                return bitOf(day.overslept, one);
            default:
                return OUTSIDE;
        }
    }

    public int work(int work, int what) {
        if (isNoWork(work)) {
            return UNKNOWN;
        }
        switch (what) {
            case 0:
                return told.skills[work];
            case 1:
                return told.minutes[work];
            case 2:
                return told.spans[work];
            case 3:
                return told.worths[work];
            case 4:
                return day.falls[work];
            default:
                return OUTSIDE;
        }
    }

    public int good(int good, int what) {
        if (isNoGood(good)) {
            return UNKNOWN;
        }
        switch (what) {
            case 0:
                return told.priceOf(good, day.century);
            case 1:
                return bitOf(day.sold, good);
            default:
                return OUTSIDE;
        }
    }

    public int as(int one, int kind) {
        if (isNoOne(one)) {
            return UNKNOWN;
        }
        if (isOutside(kind, 0, 5)) {
            return OUTSIDE;
        }
        if (bitOf(TAKEN_AS[told.kinds[one]], kind) == 0) {
            return NOT;
        }
        int bits = 0;
        for (int work = 0; work < told.works; work++) {
            if (canDo(one, work)) {
                bits |= 1 << work;
            }
        }
        return bits;
    }

    public int goodAs(int good, int kind) {
        if (isNoGood(good)) {
            return UNKNOWN;
        }
        if (isOutside(kind, 0, 2)) {
            return OUTSIDE;
        }
        int ownKind = bitOf(told.growing, good) == 1 ? 1 : 2;
        if (kind != 0 && kind != ownKind) {
            return NOT;
        }
        return told.priceOf(good, day.century + 1);
    }

    // ---- a day

    public int does(int one, int work) {
        if (isNoOne(one) || isNoWork(work)) {
            return UNKNOWN;
        }
        if (!canDo(one, work)) {
            return NOT;
        }
        past.remember(day);
        day.minutesLeft[one] -= told.minutes[work];
        day.falls[work] = told.spans[work];
        return day.minutesLeft[one];
    }

    public int marry(int one, int other) {
        if (isNoOne(one) || isNoOne(other) || one == other) {
            return UNKNOWN;
        }
        if (!told.likeOneAnother(one, other) || day.isMarried(one) || day.isMarried(other)) {
            return NOT;
        }
        past.remember(day);
        day.spouses[one] = other;
        day.spouses[other] = one;
        day.marriages++;
        return day.marriages;
    }

    public int sell(int good) {
        if (isNoGood(good)) {
            return UNKNOWN;
        }
        if (bitOf(day.sold, good) == 1) {
            return NOT;
        }
        past.remember(day);
        int price = told.priceOf(good, day.century);
        day.sold |= 1 << good;
        day.earned += price;
        return price;
    }

    public int oversleep(int one, int is) {
        if (isNoOne(one)) {
            return UNKNOWN;
        }
        if (isOutside(is, 0, 1)) {
            return OUTSIDE;
        }
        past.remember(day);
        int was = bitOf(day.overslept, one);
        day.overslept = (day.overslept & ~(1 << one)) | (is << one);
        return was;
    }

    public int sleep(int z) {
        if (isOutside(z, 0, LAST_DRAW)) {
            return OUTSIDE;
        }
        if (day.century >= LAST_CENTURY) {
            return FULL;
        }
        past.remember(day);
        return day.letCenturyGo(told, z);
    }

    public int undo() {
        if (past.size == 0) {
            return NOT;
        }
        past.recall(day);
        return past.size;
    }

    public int keep(int k) {
        if (isOutside(k, 0, MOST_KEPT - 1)) {
            return UNKNOWN;
        }
        kept[k].copyFrom(day);
        keptBits |= 1 << k;
        return day.century;
    }

    public int back(int k) {
        if (isOutside(k, 0, MOST_KEPT - 1)) {
            return UNKNOWN;
        }
        if (bitOf(keptBits, k) == 0) {
            return NOT;
        }
        day.copyFrom(kept[k]);
        past.size = 0;
        return day.century;
    }

    // ---- foretold

    public int plan() {
        planner.takeUp(told, day);
        return planner.held + planner.mostFrom(0);
    }

    public int planOf(int work) {
        if (isNoWork(work)) {
            return UNKNOWN;
        }
        planner.takeUp(told, day);
        return planner.doerOf(work);
    }

    public int shortest() {
        planner.takeUp(told, day);
        return planner.shortestLength();
    }

    public int sale(int n, int good) {
        if (good != NONE && isNoGood(good)) {
            return UNKNOWN;
        }
        if (isOutside(n, 1, MOST_DAYS)) {
            return OUTSIDE;
        }
        market.takeUp(told, day, n);
        return good == NONE ? market.mostOf(market.unsold, 0) : market.dayOf(good);
    }

    public long odds(int world, int t, int part) {
        if (isNoWorld(world)) {
            return UNKNOWN;
        }
        if (isOutside(t, 0, FARTHEST) || isOutside(part, 0, 1)) {
            return OUTSIDE;
        }
        chances.lookAhead(told, day.world, t);
        return chances.partOf(world, part);
    }

    public int sign(int world, int t, int was) {
        if (isNoWorld(world)) {
            return UNKNOWN;
        }
        if (isOutside(t, 0, FARTHEST) || isOutside(was, 0, 1)) {
            return OUTSIDE;
        }
        return chances.addSign(world, t, was) ? chances.signs : FULL;
    }

    public int forget() {
        int had = chances.signs;
        chances.signs = 0;
        return had;
    }

    public long likely(int world, int t, int part) {
        if (isNoWorld(world)) {
            return UNKNOWN;
        }
        if (isOutside(t, 0, FARTHEST) || isOutside(part, 0, 1)) {
            return OUTSIDE;
        }
        chances.lookBack(told, t);
        return chances.total() == 0 ? NOT : chances.partOf(world, part);
    }

    // ---- wordings, marriages, ballots

    public int wording(int bits) {
        if (isOutside(bits, 0, 63)) {
            return OUTSIDE;
        }
        if (wordings.within(bits, 0) != 0) {
            return NOT;
        }
        return wordings.add(bits) ? wordings.size : FULL;
    }

    public int bears() {
        return wordings.size == 0 ? NONE : wordings.alterings();
    }

    public int meant(int bits, int k) {
        if (isOutside(bits, 0, 63) || isOutside(k, 0, LETTERS_OF_WORDING)) {
            return OUTSIDE;
        }
        return wordings.within(bits, k);
    }

    public int pairs(int what) {
        if (isOutside(what, 0, 2)) {
            return OUTSIDE;
        }
        couples.takeUp(told, day);
        if (what == 0) {
            return couples.most;
        }
        return what == 1 ? couples.lesser : couples.greater;
    }

    public int ballot(int digits) {
        if (!ballots.isRowOfAll(digits, told.people)) {
            return OUTSIDE;
        }
        if (told.people == 0) {
            return NOT;
        }
        return ballots.add(told.people) ? ballots.size : FULL;
    }

    public int mayor(int rule) {
        if (isOutside(rule, 0, 1)) {
            return OUTSIDE;
        }
        if (ballots.size == 0) {
            return NONE;
        }
        return rule == 0 ? ballots.mayorByFirsts(told.people) : ballots.mayorByPoints(told.people);
    }

    public int points(int one) {
        return isNoOne(one) ? UNKNOWN : ballots.pointsOf(one, told.people);
    }

    public int swing() {
        return ballots.size == 0 ? 0 : ballots.swingBits(told.people);
    }

    public int count(int what) {
        switch (what) {
            case 0:
                return told.people;
            case 1:
                return told.works;
            case 2:
                return told.goods;
            case 3:
                return told.length;
            case 4:
                return day.century;
            case 5:
                return day.world;
            case 6:
                return day.earned;
            case 7:
                return day.holdingBits(told.works);
            case 8:
                return day.marriages;
            case 9:
                return wordings.size;
            case 10:
                return ballots.size;
            case 11:
                return chances.signs;
            case 12:
                return past.size;
            case 13:
                return text.size;
            default:
                return OUTSIDE;
        }
    }

    private static boolean isOutside(int number, int least, int most) {
        return number < least || number > most;
    }

    private static int bitOf(int bits, int place) {
        return (bits >> place) & 1;
    }

    private boolean isNoOne(int one) {
        return one < 0 || one >= told.people;
    }

    private boolean isNoWork(int work) {
        return work < 0 || work >= told.works;
    }

    private boolean isNoGood(int good) {
        return good < 0 || good >= told.goods;
    }

    private static boolean isNoWorld(int world) {
        return world < 0 || world >= WORLDS;
    }

    private boolean canDo(int one, int work) {
        return bitOf(day.asleep, one) == 0
            && bitOf(told.skillBitsOf(one), told.skills[work]) == 1
            && told.minutes[work] <= day.minutesLeft[one];
    }

    /** What texts have told: what no day and no CENTURY changes. */
    private static final class Told {
        int people;
        final int[] kinds;
        final int[] likings;
        int works;
        final int[] skills;
        final int[] minutes;
        final int[] spans;
        final int[] worths;
        int goods;
        int growing;
        final int[] firstPrices;
        final int[] steps;
        int length;
        final int[] worldAfter;
        final int[] tenths;

        Told() {
            kinds = new int[MOST_PEOPLE];
            likings = new int[MOST_PEOPLE];
            skills = new int[MOST_WORKS];
            minutes = new int[MOST_WORKS];
            spans = new int[MOST_WORKS];
            worths = new int[MOST_WORKS];
            firstPrices = new int[MOST_GOODS];
            steps = new int[MOST_GOODS];
            worldAfter = new int[WORLDS];
            tenths = new int[WORLDS];
            tellNothing();
        }

        void tellNothing() {
            people = 0;
            works = 0;
            goods = 0;
            growing = 0;
            length = FIRST_LENGTH;
            tellStill();
        }

        void tellStill() {
            for (int world = 0; world < WORLDS; world++) {
                tellWorld(world, world, 0);
            }
        }

        void tellWorld(int from, int to, int chance) {
            worldAfter[from] = to;
            tenths[from] = chance;
        }

        void addOne(int kind) {
            if (people >= MOST_PEOPLE) {
                return;
            }
            kinds[people] = kind;
            likings[people] = 0;
            people++;
        }

        void addWork(int skill, int time, int span, int worth) {
            if (works >= MOST_WORKS) {
                return;
            }
            skills[works] = skill;
            minutes[works] = time;
            spans[works] = span;
            worths[works] = worth;
            works++;
        }

        void addGood(int price, int step, int grows) {
            if (goods >= MOST_GOODS) {
                return;
            }
            firstPrices[goods] = price;
            steps[goods] = step;
            growing = (growing & ~(1 << goods)) | (grows << goods);
            goods++;
        }

        void copyFrom(Told other) {
            people = other.people;
            works = other.works;
            goods = other.goods;
            growing = other.growing;
            length = other.length;
            System.arraycopy(other.kinds, 0, kinds, 0, MOST_PEOPLE);
            System.arraycopy(other.likings, 0, likings, 0, MOST_PEOPLE);
            System.arraycopy(other.skills, 0, skills, 0, MOST_WORKS);
            System.arraycopy(other.minutes, 0, minutes, 0, MOST_WORKS);
            System.arraycopy(other.spans, 0, spans, 0, MOST_WORKS);
            System.arraycopy(other.worths, 0, worths, 0, MOST_WORKS);
            System.arraycopy(other.firstPrices, 0, firstPrices, 0, MOST_GOODS);
            System.arraycopy(other.steps, 0, steps, 0, MOST_GOODS);
            System.arraycopy(other.worldAfter, 0, worldAfter, 0, WORLDS);
            System.arraycopy(other.tenths, 0, tenths, 0, WORLDS);
        }

        int skillBitsOf(int one) {
            return kinds[one] == REEVE ? ALL_SKILLS : 1 << kinds[one];
        }

        boolean likeOneAnother(int one, int other) {
            return bitOf(likings[one], other) == 1 && bitOf(likings[other], one) == 1;
        }

        int priceOf(int good, int century) {
            int change = steps[good] * century;
            if (bitOf(growing, good) == 1) {
                return firstPrices[good] + change;
            }
            return Math.max(0, firstPrices[good] - change);
        }
    }

    /** THE TEXT, and its reading: CLAUSES are done on a draft, so that a FAULT leaves the town alone. */
    private static final class Text {
        private static final int WORD = 0, NUMBER = 1, OTHER = 2, END = 3;
        private static final int TOWN = 0, SMITH = 1, LIKES = 5, WORK = 6, GROW = 7, WITHER = 8;
        private static final int LENGTH = 9, WORLD = 10, STILL = 11, CLAUSE_KINDS = 12;

        final int[] letters;
        final Told draft;
        int size;
        int clauses;
        private int tokenKind;
        private int tokenStart;
        private int tokenEnd;
        private int faultAt;

        Text() {
            letters = new int[MOST_LETTERS];
            draft = new Told();
        }

        boolean add(int letter) {
            if (size >= MOST_LETTERS) {
                return false;
            }
            letters[size] = letter;
            size++;
            return true;
        }

        int findFault(Told told) {
            draft.copyFrom(told);
            clauses = 0;
            faultAt = NONE;
            readToken(0);
            for (int number = 1; number <= MOST_CLAUSES; number++) {
                readClause();
                if (faultAt != NONE) {
                    return faultAt;
                }
                clauses = number;
                if (tokenKind == END) {
                    return NONE;
                }
                if (letters[tokenStart] != ';' || number == MOST_CLAUSES) {
                    return tokenStart;
                }
                readToken(tokenEnd);
            }
            return faultAt;
        }

        private void readToken(int from) {
            int start = from;
            while (start < size && letters[start] == ' ') {
                start++;
            }
            tokenStart = start;
            tokenEnd = start;
            tokenKind = END;
            if (start >= size) {
                return;
            }
            tokenKind = kindOf(letters[start]);
            tokenEnd = start + 1;
            while (tokenKind != OTHER && tokenEnd < size && kindOf(letters[tokenEnd]) == tokenKind) {
                tokenEnd++;
            }
        }

        private static int kindOf(int letter) {
            if (letter >= 'a' && letter <= 'z') {
                return WORD;
            }
            return letter >= '0' && letter <= '9' ? NUMBER : OTHER;
        }

        private void readClause() {
            int clause = clauseOfToken();
            if (clause == NONE || !hasRoomFor(clause)) {
                faultAt = tokenStart;
                return;
            }
            readToken(tokenEnd);
            switch (clause) {
                case TOWN:
                    draft.tellNothing();
                    break;
                case LIKES:
                    readLikes();
                    break;
                case WORK:
                    readWork();
                    break;
                case GROW:
                    readGood(1);
                    break;
                case WITHER:
                    readGood(0);
                    break;
                case LENGTH:
                    readLength();
                    break;
                case WORLD:
                    readWorld();
                    break;
                case STILL:
                    draft.tellStill();
                    break;
                default:
                    draft.addOne(clause - SMITH);
                    break;
            }
        }

        private int clauseOfToken() {
            if (tokenKind != WORD) {
                return NONE;
            }
            for (int clause = 0; clause < CLAUSE_KINDS; clause++) {
                if (tokenSpells(wordOf(clause))) {
                    return clause;
                }
            }
            return NONE;
        }

        private static String wordOf(int clause) {
            switch (clause) {
                case 0:
                    return "town";
                case 1:
                    return "smith";
                case 2:
                    return "mason";
                case 3:
                    return "scribe";
                case 4:
                    return "reeve";
                case 5:
                    return "likes";
                case 6:
                    return "work";
                case 7:
                    return "grow";
                case 8:
                    return "wither";
                case 9:
                    return "length";
                case 10:
                    return "world";
                default:
                    return "still";
            }
        }

        private boolean tokenSpells(String word) {
            if (word.length() != tokenEnd - tokenStart) {
                return false;
            }
            for (int i = 0; i < word.length(); i++) {
                if (word.charAt(i) != letters[tokenStart + i]) {
                    return false;
                }
            }
            return true;
        }

        private boolean hasRoomFor(int clause) {
            if (clause >= SMITH && clause < LIKES) {
                return draft.people < MOST_PEOPLE;
            }
            if (clause == WORK) {
                return draft.works < MOST_WORKS;
            }
            if (clause == GROW || clause == WITHER) {
                return draft.goods < MOST_GOODS;
            }
            return true;
        }

        private void readLikes() {
            int one = takeNumber(0, draft.people - 1);
            int other = takeNumberUnlike(one, draft.people - 1);
            if (faultAt == NONE) {
                draft.likings[one] |= 1 << other;
            }
        }

        private void readWork() {
            int skill = takeNumber(0, 2);
            int time = takeNumber(1, 60);
            int span = takeNumber(1, 9);
            int worth = takeNumber(0, 50);
            if (faultAt == NONE) {
                draft.addWork(skill, time, span, worth);
            }
        }

        private void readGood(int grows) {
            int price = takeNumber(0, 99);
            int step = takeNumber(0, 9);
            if (faultAt == NONE) {
                draft.addGood(price, step, grows);
            }
        }

        private void readLength() {
            int length = takeNumber(1, LONGEST_DAY);
            if (faultAt == NONE) {
                draft.length = length;
            }
        }

        private void readWorld() {
            int from = takeNumber(0, WORLDS - 1);
            int to = takeNumberUnlike(from, WORLDS - 1);
            int chance = takeNumber(0, 9);
            if (faultAt == NONE) {
                draft.tellWorld(from, to, chance);
            }
        }

        /** Behind a FAULT nothing more is read: what is answered then is never used. */
        private int takeNumber(int least, int most) {
            if (faultAt != NONE) {
                return NONE;
            }
            int number = numberOfToken();
            if (isOutside(number, least, most)) {
                faultAt = tokenStart;
                return NONE;
            }
            readToken(tokenEnd);
            return number;
        }

        private int takeNumberUnlike(int unlike, int most) {
            int start = tokenStart;
            int number = takeNumber(0, most);
            if (faultAt == NONE && number == unlike) {
                faultAt = start;
            }
            return number;
        }

        private int numberOfToken() {
            int digits = tokenEnd - tokenStart;
            if (tokenKind != NUMBER || digits > 2) {
                return NONE;
            }
            int number = 0;
            for (int i = tokenStart; i < tokenEnd; i++) {
                number = number * 10 + letters[i] - '0';
            }
            return number;
        }
    }

    /** What days and CENTURIES change: all that is kept, and given back by undoing. */
    private static final class Day {
        int century;
        int world;
        int earned;
        int marriages;
        int asleep;
        int overslept;
        int sold;
        final int[] minutesLeft;
        final int[] spouses;
        final int[] falls;

        Day() {
            minutesLeft = new int[MOST_PEOPLE];
            spouses = new int[MOST_PEOPLE];
            falls = new int[MOST_WORKS];
        }

        void beginAnew(int length) {
            century = 0;
            world = 0;
            earned = 0;
            marriages = 0;
            asleep = 0;
            overslept = 0;
            sold = 0;
            Arrays.fill(minutesLeft, length);
            Arrays.fill(spouses, NONE);
            Arrays.fill(falls, 0);
        }

        void copyFrom(Day other) {
            century = other.century;
            world = other.world;
            earned = other.earned;
            marriages = other.marriages;
            asleep = other.asleep;
            overslept = other.overslept;
            sold = other.sold;
            System.arraycopy(other.minutesLeft, 0, minutesLeft, 0, MOST_PEOPLE);
            System.arraycopy(other.spouses, 0, spouses, 0, MOST_PEOPLE);
            System.arraycopy(other.falls, 0, falls, 0, MOST_WORKS);
        }

        boolean isMarried(int one) {
            return spouses[one] != NONE;
        }

        int holdingBits(int works) {
            int bits = 0;
            for (int work = 0; work < works; work++) {
                if (falls[work] > 0) {
                    bits |= 1 << work;
                }
            }
            return bits;
        }

        int letCenturyGo(Told told, int z) {
            int draw = (z * z + 31 * z + 17 * century + 5) % 65521 % 10;
            if (draw < told.tenths[world]) {
                world = told.worldAfter[world];
            }
            century++;
            asleep = overslept;
            overslept = 0;
            Arrays.fill(minutesLeft, told.length);
            return letWorksFall(told.works);
        }

        private int letWorksFall(int works) {
            int heldAhead = holdingBits(works);
            for (int work = 0; work < works; work++) {
                falls[work] = Math.max(0, falls[work] - 1);
            }
            return heldAhead & ~holdingBits(works);
        }
    }

    /** The days ahead of the latest deeds, in a ring: the oldest gives way. */
    private static final class Past {
        int size;
        private int next;
        private final Day[] ring;

        Past() {
            ring = new Day[MOST_UNDONE];
            for (int i = 0; i < MOST_UNDONE; i++) {
                ring[i] = new Day();
            }
        }

        void remember(Day day) {
            ring[next].copyFrom(day);
            next = (next + 1) % MOST_UNDONE;
            size = Math.min(size + 1, MOST_UNDONE);
        }

        void recall(Day day) {
            next = (next + MOST_UNDONE - 1) % MOST_UNDONE;
            day.copyFrom(ring[next]);
            size = Math.max(0, size - 1);
        }
    }

    /** PLAN and SHORTEST, by sets of WORKS (bits): what one can do of a set, and what others of the rest. */
    private static final class Planner {
        int held;
        private int people;
        private int works;
        private final int[] left;
        private final int[] skillBits;
        private final int[] gains;
        private final int[] minutesOfSet;
        private final int[] skillsOfSet;
        private final int[] gainOfSet;
        private final int[] best;

        Planner() {
            left = new int[MOST_PEOPLE];
            skillBits = new int[MOST_PEOPLE];
            gains = new int[MOST_WORKS];
            minutesOfSet = new int[1 << MOST_WORKS];
            skillsOfSet = new int[1 << MOST_WORKS];
            gainOfSet = new int[1 << MOST_WORKS];
            best = new int[1 << MOST_WORKS];
        }

        void takeUp(Told told, Day day) {
            people = told.people;
            works = told.works;
            held = 0;
            for (int one = 0; one < people; one++) {
                skillBits[one] = told.skillBitsOf(one);
                left[one] = bitOf(day.asleep, one) == 1 ? 0 : day.minutesLeft[one];
            }
            for (int work = 0; work < works; work++) {
                boolean holds = day.falls[work] > 0;
                gains[work] = holds ? 0 : told.worths[work];
                held += holds ? told.worths[work] : 0;
            }
            addUpSets(told);
        }

        private void addUpSets(Told told) {
            for (int work = 0; work < works; work++) {
                int first = 1 << work;
                for (int set = first; set < 2 * first; set++) {
                    int rest = set - first;
                    minutesOfSet[set] = minutesOfSet[rest] + told.minutes[work];
                    skillsOfSet[set] = skillsOfSet[rest] | (1 << told.skills[work]);
                    gainOfSet[set] = gainOfSet[rest] + gains[work];
                }
            }
        }

        /** The most that WORKS from the first one on can add, by the MINUTES that are left. */
        int mostFrom(int first) {
            int sets = 1 << Math.max(0, works - first);
            Arrays.fill(best, 0);
            for (int one = 0; one < people; one++) {
                // The greater sets come first, so that smaller ones are still without this one's help.
                for (int set = sets - 1; set > 0 && left[one] > 0; set--) {
                    best[set] = mostWith(one, set, first);
                }
            }
            return best[sets - 1];
        }

        private int mostWith(int one, int set, int first) {
            int most = best[set];
            for (int part = set; part > 0; part = (part - 1) & set) {
                int total = gainOfSet[part << first] + best[set ^ part];
                if (total > most && fits(one, part << first)) {
                    most = total;
                }
            }
            return most;
        }

        private boolean fits(int one, int set) {
            return minutesOfSet[set] <= left[one] && (skillsOfSet[set] & ~skillBits[one]) == 0;
        }

        /** Who does the WORK in the first row: each WORK ahead of it is settled first, none ahead of PEOPLE. */
        int doerOf(int asked) {
            int goal = mostFrom(0);
            int doer = NONE;
            for (int work = 0; work <= asked && work < works; work++) {
                doer = firstDoer(work, goal);
                if (doer != NONE) {
                    goal -= gains[work];
                }
            }
            return doer;
        }

        private int firstDoer(int work, int goal) {
            if (mostFrom(work + 1) >= goal) {
                return NONE;
            }
            int time = minutesOfSet[1 << work];
            for (int one = 0; one < people; one++) {
                if (fits(one, 1 << work)) {
                    left[one] -= time;
                    if (gains[work] + mostFrom(work + 1) >= goal) {
                        return one;
                    }
                    left[one] += time;
                }
            }
            return NONE;
        }

        /** A longer day never holds less, so the least LENGTH is found by halving. */
        int shortestLength() {
            int goal = mostWithLength(LONGEST_DAY);
            int least = 1;
            int enough = LONGEST_DAY;
            for (int step = 0; step < LONGEST_DAY && least < enough; step++) {
                int middle = (least + enough) / 2;
                if (mostWithLength(middle) >= goal) {
                    enough = middle;
                } else {
                    least = middle + 1;
                }
            }
            return enough;
        }

        private int mostWithLength(int length) {
            Arrays.fill(left, length);
            return mostFrom(0);
        }
    }

    /** SALE, by sets of GOODS (bits) and sets of days that are taken (bits). */
    private static final class Market {
        int unsold;
        private int goods;
        private int days;
        private final int[] prices;
        private final int[] best;

        Market() {
            prices = new int[MOST_GOODS * MOST_DAYS];
            best = new int[1 << MOST_GOODS];
        }

        void takeUp(Told told, Day day, int n) {
            goods = told.goods;
            days = n;
            unsold = ((1 << goods) - 1) & ~day.sold;
            for (int good = 0; good < goods; good++) {
                for (int later = 0; later < days; later++) {
                    prices[good * MOST_DAYS + later] = told.priceOf(good, day.century + later);
                }
            }
        }

        int mostOf(int set, int taken) {
            Arrays.fill(best, 0);
            for (int later = 0; later < days; later++) {
                // The greater sets come first, so that smaller ones are still without this day.
                for (int part = set; part > 0 && bitOf(taken, later) == 0; part = (part - 1) & set) {
                    best[part] = mostWith(part, later);
                }
            }
            return best[set];
        }

        private int mostWith(int set, int later) {
            int most = best[set];
            for (int good = 0; good < goods; good++) {
                if (bitOf(set, good) == 1) {
                    most = Math.max(most, prices[good * MOST_DAYS + later] + best[set - (1 << good)]);
                }
            }
            return most;
        }

        /** The day of the GOOD in the first row: each GOOD ahead of it is settled first, none ahead of days. */
        int dayOf(int asked) {
            int goal = mostOf(unsold, 0);
            int rest = unsold;
            int taken = 0;
            int found = NONE;
            for (int good = 0; good <= asked && good < goods; good++) {
                found = NONE;
                if (bitOf(unsold, good) == 1) {
                    rest -= 1 << good;
                    found = firstDay(good, goal, rest, taken);
                }
                if (found != NONE) {
                    goal -= prices[good * MOST_DAYS + found];
                    taken |= 1 << found;
                }
            }
            return found;
        }

        private int firstDay(int good, int goal, int rest, int taken) {
            if (mostOf(rest, taken) >= goal) {
                return NONE;
            }
            for (int later = 0; later < days; later++) {
                int price = prices[good * MOST_DAYS + later];
                if (bitOf(taken, later) == 0 && price + mostOf(rest, taken | (1 << later)) >= goal) {
                    return later;
                }
            }
            return NONE;
        }
    }

    /** ODDS, SIGNS, LIKELY: weights of the four WORLDS, each CENTURY times ten, so that they stay whole. */
    private static final class Chances {
        int signs;
        private final int[] signWorlds;
        private final int[] signTimes;
        private final int[] signWas;
        private final long[] weights;
        private final long[] later;
        private final long[] spare;

        Chances() {
            signWorlds = new int[MOST_SIGNS];
            signTimes = new int[MOST_SIGNS];
            signWas = new int[MOST_SIGNS];
            weights = new long[WORLDS];
            later = new long[WORLDS];
            spare = new long[WORLDS];
        }

        boolean addSign(int world, int t, int was) {
            if (signs >= MOST_SIGNS) {
                return false;
            }
            signWorlds[signs] = world;
            signTimes[signs] = t;
            signWas[signs] = was;
            signs++;
            return true;
        }

        void lookAhead(Told told, int world, int centuries) {
            Arrays.fill(weights, 0L);
            weights[world] = 1L;
            for (int i = 0; i < centuries; i++) {
                goOn(told);
            }
        }

        /** What SIGNS up to t CENTURIES ago leave, times what SIGNS after it leave. */
        void lookBack(Told told, int t) {
            Arrays.fill(weights, 1L);
            ruleOut(weights, FARTHEST);
            for (int ago = FARTHEST - 1; ago >= t; ago--) {
                goOn(told);
                ruleOut(weights, ago);
            }
            Arrays.fill(later, 1L);
            for (int ago = 0; ago < t; ago++) {
                ruleOut(later, ago);
                goBack(told);
            }
            for (int world = 0; world < WORLDS; world++) {
                weights[world] *= later[world];
            }
        }

        private void goOn(Told told) {
            Arrays.fill(spare, 0L);
            for (int world = 0; world < WORLDS; world++) {
                int chance = told.tenths[world];
                spare[world] += weights[world] * (10 - chance);
                spare[told.worldAfter[world]] += weights[world] * chance;
            }
            System.arraycopy(spare, 0, weights, 0, WORLDS);
        }

        private void goBack(Told told) {
            for (int world = 0; world < WORLDS; world++) {
                int chance = told.tenths[world];
                spare[world] = later[world] * (10 - chance) + later[told.worldAfter[world]] * chance;
            }
            System.arraycopy(spare, 0, later, 0, WORLDS);
        }

        private void ruleOut(long[] row, int ago) {
            for (int i = 0; i < signs; i++) {
                for (int world = 0; world < WORLDS; world++) {
                    int is = world == signWorlds[i] ? 1 : 0;
                    if (signTimes[i] == ago && is != signWas[i]) {
                        row[world] = 0L;
                    }
                }
            }
        }

        long total() {
            long sum = 0L;
            for (int world = 0; world < WORLDS; world++) {
                sum += weights[world];
            }
            return sum;
        }

        long partOf(int world, int part) {
            long below = total();
            long shared = commonDivisor(weights[world], below);
            if (shared == 0L) {
                return 0L;
            }
            return (part == 0 ? weights[world] : below) / shared;
        }

        private static long commonDivisor(long one, long other) {
            long greater = one;
            long lesser = other;
            // A hundred steps are more than any two longs need.
            for (int step = 0; step < 100 && lesser != 0L; step++) {
                long rest = greater % lesser;
                greater = lesser;
                lesser = rest;
            }
            return greater;
        }
    }

    /** PAIRS, by sets of PEOPLE (bits). */
    private static final class Couples {
        int most;
        int lesser;
        int greater;
        private final int[] friends;
        private final int[] best;

        Couples() {
            friends = new int[MOST_PEOPLE];
            best = new int[1 << MOST_PEOPLE];
        }

        void takeUp(Told told, Day day) {
            for (int one = 0; one < told.people; one++) {
                friends[one] = 0;
                for (int other = 0; other < told.people; other++) {
                    boolean may = told.likeOneAnother(one, other) && !day.isMarried(one) && !day.isMarried(other);
                    friends[one] |= may ? 1 << other : 0;
                }
            }
            for (int one = 0; one < told.people; one++) {
                for (int rest = 0; rest < 1 << one; rest++) {
                    best[rest + (1 << one)] = mostWith(one, rest);
                }
            }
            most = best[(1 << told.people) - 1];
            findFirstPair(told.people);
        }

        private int mostWith(int one, int rest) {
            int found = best[rest];
            for (int other = 0; other < one; other++) {
                if (bitOf(rest & friends[one], other) == 1) {
                    found = Math.max(found, 1 + best[rest - (1 << other)]);
                }
            }
            return found;
        }

        private void findFirstPair(int people) {
            lesser = NONE;
            greater = NONE;
            for (int one = 0; one < people; one++) {
                int behind = ((1 << people) - 1) & -(2 << one);
                for (int other = one + 1; other < people; other++) {
                    boolean pair = bitOf(friends[one], other) == 1;
                    if (pair && 1 + best[behind - (1 << other)] == most) {
                        lesser = one;
                        greater = other;
                        return;
                    }
                }
            }
        }
    }

    /** WORDINGS: rows of six bits. */
    private static final class Wordings {
        int size;
        private final int[] rows;

        Wordings() {
            rows = new int[MOST_WORDINGS];
        }

        boolean add(int bits) {
            if (size >= MOST_WORDINGS) {
                return false;
            }
            rows[size] = bits;
            size++;
            return true;
        }

        int within(int bits, int k) {
            int found = 0;
            for (int i = 0; i < size; i++) {
                if (Integer.bitCount(rows[i] ^ bits) <= k) {
                    found |= 1 << i;
                }
            }
            return found;
        }

        /** Fewer than half of the letters in which the nearest two differ. */
        int alterings() {
            if (size == 1) {
                return LETTERS_OF_WORDING;
            }
            int nearest = LETTERS_OF_WORDING;
            for (int i = 0; i < size; i++) {
                for (int j = 0; j < i; j++) {
                    nearest = Math.min(nearest, Integer.bitCount(rows[i] ^ rows[j]));
                }
            }
            return (nearest - 1) / 2;
        }
    }

    /** BALLOTS, each a row of PEOPLE, the best first; and both rules. */
    private static final class Ballots {
        int size;
        private final int[] places;
        private final int[] row;
        private final int[] votes;

        Ballots() {
            places = new int[MOST_BALLOTS * MOST_PEOPLE];
            row = new int[MOST_PEOPLE];
            votes = new int[MOST_PEOPLE];
        }

        /** The row that is read stays, for add(). */
        boolean isRowOfAll(int digits, int people) {
            if (digits < 0) {
                return false;
            }
            int rest = digits;
            int seen = 0;
            for (int place = people - 1; place >= 0; place--) {
                row[place] = rest % 10;
                seen |= 1 << row[place];
                rest /= 10;
            }
            return rest == 0 && seen == (1 << people) - 1;
        }

        boolean add(int people) {
            if (size >= MOST_BALLOTS) {
                return false;
            }
            System.arraycopy(row, 0, places, size * MOST_PEOPLE, people);
            size++;
            return true;
        }

        private int standing(int ballot, int place) {
            return places[ballot * MOST_PEOPLE + place];
        }

        private void countFirsts() {
            Arrays.fill(votes, 0);
            for (int ballot = 0; ballot < size; ballot++) {
                votes[standing(ballot, 0)]++;
            }
        }

        private int leastOfMost(int people) {
            int found = 0;
            for (int one = 1; one < people; one++) {
                if (votes[one] > votes[found]) {
                    found = one;
                }
            }
            return found;
        }

        int mayorByFirsts(int people) {
            countFirsts();
            return leastOfMost(people);
        }

        int mayorByPoints(int people) {
            for (int one = 0; one < people; one++) {
                votes[one] = pointsOf(one, people);
            }
            return leastOfMost(people);
        }

        int pointsOf(int one, int people) {
            int sum = 0;
            for (int ballot = 0; ballot < size; ballot++) {
                for (int place = 0; place < people; place++) {
                    sum += standing(ballot, place) == one ? people - 1 - place : 0;
                }
            }
            return sum;
        }

        int swingBits(int people) {
            int now = mayorByFirsts(people);
            int bits = 0;
            for (int ballot = 0; ballot < size; ballot++) {
                if (couldSwing(ballot, now, people)) {
                    bits |= 1 << ballot;
                }
            }
            return bits;
        }

        /** To put one first helps him most: no other way to tell the BALLOT need be tried. */
        private boolean couldSwing(int ballot, int now, int people) {
            int first = standing(ballot, 0);
            boolean swings = false;
            for (int place = 0; place < people && standing(ballot, place) != now; place++) {
                int better = standing(ballot, place);
                votes[first]--;
                votes[better]++;
                swings |= leastOfMost(people) == better;
                votes[better]--;
                votes[first]++;
            }
            return swings;
        }
    }
}
