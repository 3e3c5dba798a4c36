import java.util.ArrayList;
import java.util.Arrays;
import java.util.HashMap;
import java.util.List;
import java.util.Map;
import java.util.TreeMap;
import java.util.TreeSet;
import java.util.regex.Matcher;
import java.util.regex.Pattern;

/** A second town, written from the document in the plainest way: rows are found by trying all, odds by whole courses. */
final class Plain {
    private static final int NONE = -1, UNKNOWN = -2, OUTSIDE = -3, NOT = -4, FULL = -5;
    private static final List<String> KINDS = List.of("smith", "mason", "scribe", "reeve");
    private static final Pattern TOKEN = Pattern.compile("[a-z]+|[0-9]+|[^ ]", Pattern.DOTALL);
    /** For each KIND (0 .. 5) the one that it is under. */
    private static final int[] OVER = {NONE, 0, 1, 1, 0, 4};

    /** What texts tell. */
    static final class Told {
        final List<Integer> people = new ArrayList<>();
        final List<TreeSet<Integer>> likes = new ArrayList<>();
        final List<int[]> works = new ArrayList<>();
        /** 1 it GROWS or 0, WORTH at first, by how much. */
        final List<int[]> goods = new ArrayList<>();
        final Map<Integer, int[]> world = new TreeMap<>();
        int length = 60;

        Told copy() {
            Told t = new Told();
            t.people.addAll(people);
            for (TreeSet<Integer> row : likes) t.likes.add(new TreeSet<>(row));
            t.works.addAll(works);
            t.goods.addAll(goods);
            t.world.putAll(world);
            t.length = length;
            return t;
        }
    }

    /** What days change. */
    private static final class Day {
        int century;
        int world;
        int[] holds = new int[6];
        int[] left = new int[5];
        int[] spouse = {NONE, NONE, NONE, NONE, NONE};
        boolean[] asleep = new boolean[5];
        boolean[] oversleeps = new boolean[5];
        Map<Integer, Integer> sold = new HashMap<>();

        Day copy() {
            Day d = new Day();
            d.century = century;
            d.world = world;
            d.holds = holds.clone();
            d.left = left.clone();
            d.spouse = spouse.clone();
            d.asleep = asleep.clone();
            d.oversleeps = oversleeps.clone();
            d.sold = new HashMap<>(sold);
            return d;
        }
    }

    String text = "";
    Told told = new Told();
    private Day day = new Day();
    private final List<Day> past = new ArrayList<>();
    private final Map<Integer, Day> kept = new HashMap<>();
    private final List<Integer> wordings = new ArrayList<>();
    private final List<int[]> ballots = new ArrayList<>();
    private final List<int[]> signs = new ArrayList<>();
    private Told read;
    private int clauses;

    Plain() {
        Arrays.fill(day.left, told.length);
    }

    private static boolean out(int number, int least, int most) {
        return number < least || number > most;
    }

    private boolean noOne(int one) {
        return out(one, 0, told.people.size() - 1);
    }

    private boolean noWork(int work) {
        return out(work, 0, told.works.size() - 1);
    }

    private boolean noGood(int good) {
        return out(good, 0, told.goods.size() - 1);
    }

    // ---- what is told

    int write(int letter) {
        if (out(letter, 0, 255)) return OUTSIDE;
        if (text.length() == 160) return FULL;
        text += (char) letter;
        return text.length();
    }

    int erase() {
        int had = text.length();
        text = "";
        return had;
    }

    /** Least and greatest of each number of a clause; null: it is no clause. */
    private int[][] boundsOf(String word) {
        int last = read.people.size() - 1;
        switch (word) {
            case "town": case "smith": case "mason": case "scribe": case "reeve": case "still": return new int[][] {};
            case "likes": return new int[][] {{0, last}, {0, last}};
            case "work": return new int[][] {{0, 2}, {1, 60}, {1, 9}, {0, 50}};
            case "grow": case "wither": return new int[][] {{0, 99}, {0, 9}};
            case "length": return new int[][] {{1, 99}};
            case "world": return new int[][] {{0, 3}, {0, 3}, {0, 9}};
            default: return null;
        }
    }

    private boolean full(String word) {
        return KINDS.contains(word) && read.people.size() == 5 || word.equals("work") && read.works.size() == 6
            || (word.equals("grow") || word.equals("wither")) && read.goods.size() == 5;
    }

    private void done(String word, int[] n) {
        if (word.equals("town")) read = new Told();
        if (word.equals("still")) read.world.clear();
        if (word.equals("likes")) read.likes.get(n[0]).add(n[1]);
        if (word.equals("work")) read.works.add(n);
        if (word.equals("grow")) read.goods.add(new int[] {1, n[0], n[1]});
        if (word.equals("wither")) read.goods.add(new int[] {0, n[0], n[1]});
        if (word.equals("length")) read.length = n[0];
        if (word.equals("world")) read.world.put(n[0], new int[] {n[1], n[2]});
        if (KINDS.contains(word)) {
            read.people.add(KINDS.indexOf(word));
            read.likes.add(new TreeSet<>());
        }
    }

    int fault() {
        List<String> tokens = new ArrayList<>();
        List<Integer> places = new ArrayList<>();
        Matcher m = TOKEN.matcher(text);
        while (m.find()) {
            tokens.add(m.group());
            places.add(m.start());
        }
        tokens.add("");
        places.add(text.length());
        read = told.copy();
        clauses = 0;
        for (int at = 0; true; at++) {
            String word = tokens.get(at);
            int[][] bounds = boundsOf(word);
            if (bounds == null || full(word)) return places.get(at);
            int[] numbers = new int[bounds.length];
            for (int i = 0; i < bounds.length; i++) {
                String token = tokens.get(++at);
                if (!token.matches("[0-9]{1,2}")) return places.get(at);
                numbers[i] = Integer.parseInt(token);
                boolean unlike = i == 1 && (word.equals("likes") || word.equals("world"));
                if (out(numbers[i], bounds[i][0], bounds[i][1]) || unlike && numbers[0] == numbers[1]) return places.get(at);
            }
            done(word, numbers);
            clauses++;
            at++;
            if (tokens.get(at).isEmpty()) return NONE;
            if (!tokens.get(at).equals(";") || clauses == 14) return places.get(at);
        }
    }

    int town() {
        if (fault() != NONE) return NOT;
        told = read;
        text = "";
        day = new Day();
        Arrays.fill(day.left, told.length);
        past.clear();
        kept.clear();
        wordings.clear();
        ballots.clear();
        signs.clear();
        return clauses;
    }

    int one(int one, int what) {
        if (noOne(one)) return UNKNOWN;
        if (out(what, 0, 5)) return OUTSIDE;
        int likes = 0;
        for (int other : told.likes.get(one)) likes += 1 << other;
        return new int[] {told.people.get(one), likes, day.left[one], day.spouse[one], day.asleep[one] ? 1 : 0,
            day.oversleeps[one] ? 1 : 0}[what];
    }

    int work(int work, int what) {
        if (noWork(work)) return UNKNOWN;
        if (out(what, 0, 4)) return OUTSIDE;
        return what == 4 ? day.holds[work] : told.works.get(work)[what];
    }

    private int worth(int good, int century) {
        int[] g = told.goods.get(good);
        int worth = g[1];
        for (int i = 0; i < century; i++) worth = g[0] == 1 ? worth + g[2] : Math.max(0, worth - g[2]);
        return worth;
    }

    int good(int good, int what) {
        if (noGood(good)) return UNKNOWN;
        if (out(what, 0, 1)) return OUTSIDE;
        return what == 0 ? worth(good, day.century) : day.sold.containsKey(good) ? 1 : 0;
    }

    private boolean skilled(int one, int work) {
        return told.people.get(one) == 3 || told.people.get(one) == told.works.get(work)[0];
    }

    private boolean can(int one, int work) {
        return !day.asleep[one] && skilled(one, work) && day.left[one] >= told.works.get(work)[1];
    }

    int as(int one, int kind) {
        if (noOne(one)) return UNKNOWN;
        if (out(kind, 0, 5)) return OUTSIDE;
        int is = told.people.get(one) + 2;
        while (is != NONE && is != kind) is = OVER[is];
        if (is == NONE) return NOT;
        int bits = 0;
        for (int work = 0; work < told.works.size(); work++) bits += can(one, work) ? 1 << work : 0;
        return bits;
    }

    int goodAs(int good, int kind) {
        if (noGood(good)) return UNKNOWN;
        if (out(kind, 0, 2)) return OUTSIDE;
        int grows = told.goods.get(good)[0];
        if (kind == 1 && grows == 0 || kind == 2 && grows == 1) return NOT;
        return worth(good, day.century + 1);
    }

    // ---- a day

    private void deed() {
        past.add(day);
        if (past.size() > 8) past.remove(0);
        day = day.copy();
    }

    int does(int one, int work) {
        if (noOne(one) || noWork(work)) return UNKNOWN;
        if (!can(one, work)) return NOT;
        deed();
        day.left[one] -= told.works.get(work)[1];
        day.holds[work] = told.works.get(work)[2];
        return day.left[one];
    }

    private boolean may(int one, int other) {
        return told.likes.get(one).contains(other) && told.likes.get(other).contains(one) && day.spouse[one] == NONE
            && day.spouse[other] == NONE;
    }

    private int marriages() {
        int wed = 0;
        for (int one = 0; one < told.people.size(); one++) wed += day.spouse[one] > one ? 1 : 0;
        return wed;
    }

    int marry(int one, int other) {
        if (noOne(one) || noOne(other) || one == other) return UNKNOWN;
        if (!may(one, other)) return NOT;
        deed();
        day.spouse[one] = other;
        day.spouse[other] = one;
        return marriages();
    }

    int sell(int good) {
        if (noGood(good)) return UNKNOWN;
        if (day.sold.containsKey(good)) return NOT;
        deed();
        day.sold.put(good, worth(good, day.century));
        return day.sold.get(good);
    }

    int oversleep(int one, int is) {
        if (noOne(one)) return UNKNOWN;
        if (out(is, 0, 1)) return OUTSIDE;
        deed();
        boolean was = day.oversleeps[one];
        day.oversleeps[one] = is == 1;
        return was ? 1 : 0;
    }

    int sleep(int z) {
        if (out(z, 0, 9999)) return OUTSIDE;
        if (day.century == 999) return FULL;
        deed();
        long draw = ((long) z * z + 31L * z + 17L * day.century + 5) % 65521 % 10;
        int[] goes = told.world.get(day.world);
        if (goes != null && draw < goes[1]) day.world = goes[0];
        int fallen = 0;
        for (int work = 0; work < told.works.size(); work++) {
            if (day.holds[work] == 1) fallen += 1 << work;
            if (day.holds[work] > 0) day.holds[work]--;
        }
        day.century++;
        Arrays.fill(day.left, told.length);
        day.asleep = day.oversleeps;
        day.oversleeps = new boolean[5];
        return fallen;
    }

    int undo() {
        if (past.isEmpty()) return NOT;
        day = past.remove(past.size() - 1);
        return past.size();
    }

    int keep(int k) {
        if (out(k, 0, 1)) return UNKNOWN;
        kept.put(k, day.copy());
        return day.century;
    }

    int back(int k) {
        if (out(k, 0, 1)) return UNKNOWN;
        if (!kept.containsKey(k)) return NOT;
        day = kept.get(k).copy();
        past.clear();
        return day.century;
    }

    // ---- foretold

    /** Rows in their order, none ahead of PEOPLE; of each that can be its WORTH and the longest day that one of it has. */
    private void rows(int[] row, int work, int[] used, int[] left, List<int[]> found) {
        int works = told.works.size();
        if (work == works) {
            int worth = 0;
            int longest = 0;
            for (int i = 0; i < works; i++) worth += row[i] != NONE || day.holds[i] > 0 ? told.works.get(i)[3] : 0;
            for (int minutes : used) longest = Math.max(longest, minutes);
            int[] end = Arrays.copyOf(row, works + 2);
            end[works] = worth;
            end[works + 1] = longest;
            found.add(end);
            return;
        }
        row[work] = NONE;
        rows(row, work + 1, used, left, found);
        int minutes = told.works.get(work)[1];
        for (int one = 0; one < told.people.size(); one++) {
            if (!skilled(one, work) || used[one] + minutes > left[one]) continue;
            row[work] = one;
            used[one] += minutes;
            rows(row, work + 1, used, left, found);
            used[one] -= minutes;
        }
    }

    private List<int[]> bestRows(int[] left) {
        List<int[]> found = new ArrayList<>();
        int works = told.works.size();
        rows(new int[works], 0, new int[5], left, found);
        int most = 0;
        for (int[] row : found) most = Math.max(most, row[works]);
        int goal = most;
        found.removeIf(row -> row[works] < goal);
        return found;
    }

    private int[] planned() {
        int[] left = day.left.clone();
        for (int one = 0; one < 5; one++) left[one] = day.asleep[one] ? 0 : left[one];
        return bestRows(left).get(0);
    }

    int plan() {
        return planned()[told.works.size()];
    }

    int planOf(int work) {
        return noWork(work) ? UNKNOWN : planned()[work];
    }

    int shortest() {
        int least = 99;
        for (int[] row : bestRows(new int[] {99, 99, 99, 99, 99})) least = Math.min(least, row[told.works.size() + 1]);
        return Math.max(1, least);
    }

    private void sales(int[] row, int good, int n, int[] best) {
        int goods = told.goods.size();
        if (good == goods) {
            int total = 0;
            for (int i = 0; i < goods; i++) total += row[i] == NONE ? 0 : worth(i, day.century + row[i]);
            if (total > best[goods]) {
                System.arraycopy(row, 0, best, 0, goods);
                best[goods] = total;
            }
            return;
        }
        for (int later = NONE; later < n; later++) {
            boolean free = later == NONE || !day.sold.containsKey(good);
            for (int i = 0; i < good; i++) free &= later == NONE || row[i] != later;
            if (!free) continue;
            row[good] = later;
            sales(row, good + 1, n, best);
        }
    }

    int sale(int n, int good) {
        if (good != NONE && noGood(good)) return UNKNOWN;
        if (out(n, 1, 9)) return OUTSIDE;
        int goods = told.goods.size();
        int[] best = new int[goods + 1];
        best[goods] = -1;
        sales(new int[goods], 0, n, best);
        return best[good == NONE ? goods : good];
    }

    private static long common(long a, long b) {
        return b == 0 ? a : common(b, a % b);
    }

    /** Tenths by which THE WORLD goes from one to another in a CENTURY. */
    private long tenths(int from, int to) {
        int[] goes = told.world.get(from);
        long chance = goes != null && goes[0] == to ? goes[1] : 0;
        return from != to ? chance : 10 - (goes == null ? 0 : goes[1]);
    }

    /** The weight of all courses from a WORLD on that end as told, with SIGNS or without. */
    private long courses(int world, int ago, int asked, int askedAgo, List<int[]> by) {
        for (int[] sign : by) {
            if (sign[1] == ago && (sign[0] == world) != (sign[2] == 1)) return 0;
        }
        if (asked != NONE && ago == askedAgo && asked != world) return 0;
        if (ago == 0) return 1;
        long sum = 0;
        for (int next = 0; next < 4; next++) {
            long chance = tenths(world, next);
            if (chance > 0) sum += chance * courses(next, ago - 1, asked, askedAgo, by);
        }
        return sum;
    }

    private static long part(long above, long below, int part) {
        return (part == 0 ? above : below) / common(above, below);
    }

    long odds(int world, int t, int part) {
        if (out(world, 0, 3)) return UNKNOWN;
        if (out(t, 0, 9) || out(part, 0, 1)) return OUTSIDE;
        return part(courses(day.world, t, world, 0, List.of()), courses(day.world, t, NONE, 0, List.of()), part);
    }

    int sign(int world, int t, int was) {
        if (out(world, 0, 3)) return UNKNOWN;
        if (out(t, 0, 9) || out(was, 0, 1)) return OUTSIDE;
        if (signs.size() == 6) return FULL;
        signs.add(new int[] {world, t, was});
        return signs.size();
    }

    int forget() {
        int had = signs.size();
        signs.clear();
        return had;
    }

    long likely(int world, int t, int part) {
        if (out(world, 0, 3)) return UNKNOWN;
        if (out(t, 0, 9) || out(part, 0, 1)) return OUTSIDE;
        long above = 0;
        long below = 0;
        for (int first = 0; first < 4; first++) {
            above += courses(first, 9, world, t, signs);
            below += courses(first, 9, NONE, 0, signs);
        }
        return below == 0 ? NOT : part(above, below, part);
    }

    // ---- wordings, marriages, ballots

    int wording(int bits) {
        if (out(bits, 0, 63)) return OUTSIDE;
        if (wordings.contains(bits)) return NOT;
        if (wordings.size() == 6) return FULL;
        wordings.add(bits);
        return wordings.size();
    }

    private static int apart(int one, int other) {
        return Integer.bitCount(one ^ other);
    }

    /** Whether what is read, altered from a WORDING, can be taken for another one. */
    private boolean mistaken(int own, int read) {
        for (int other : wordings) {
            if (other != own && apart(other, read) <= apart(own, read)) return true;
        }
        return false;
    }

    int bears() {
        if (wordings.isEmpty()) return NONE;
        int bears = 6;
        for (int own : wordings) {
            for (int read = 0; read < 64; read++) {
                if (mistaken(own, read)) bears = Math.min(bears, apart(own, read) - 1);
            }
        }
        return bears;
    }

    int meant(int bits, int k) {
        if (out(bits, 0, 63) || out(k, 0, 6)) return OUTSIDE;
        int found = 0;
        for (int i = 0; i < wordings.size(); i++) found += apart(wordings.get(i), bits) <= k ? 1 << i : 0;
        return found;
    }

    /** The most pairs of those who are free, none of them less than the least one. */
    private int most(boolean[] wed, int least) {
        int most = 0;
        for (int a = least; a < told.people.size(); a++) {
            for (int b = a + 1; b < told.people.size(); b++) {
                if (wed[a] || wed[b] || !may(a, b)) continue;
                wed[a] = true;
                wed[b] = true;
                most = Math.max(most, 1 + most(wed, least));
                wed[a] = false;
                wed[b] = false;
            }
        }
        return most;
    }

    int pairs(int what) {
        if (out(what, 0, 2)) return OUTSIDE;
        int most = most(new boolean[5], 0);
        if (what == 0) return most;
        for (int a = 0; a < told.people.size(); a++) {
            for (int b = a + 1; b < told.people.size(); b++) {
                boolean[] wed = new boolean[5];
                wed[a] = true;
                wed[b] = true;
                if (may(a, b) && 1 + most(wed, a) == most) return what == 1 ? a : b;
            }
        }
        return NONE;
    }

    int ballot(int digits) {
        int people = told.people.size();
        String row = String.valueOf(digits);
        while (row.length() < people) row = "0" + row;
        if (people == 0) return digits == 0 ? NOT : OUTSIDE;
        if (digits < 0 || row.length() > people) return OUTSIDE;
        int[] ballot = new int[people];
        for (int i = 0; i < people; i++) ballot[i] = row.charAt(i) - '0';
        for (int one = 0; one < people; one++) {
            if (placeOf(ballot, one) == people) return OUTSIDE;
        }
        if (ballots.size() == 9) return FULL;
        ballots.add(ballot);
        return ballots.size();
    }

    private static int placeOf(int[] ballot, int one) {
        int place = 0;
        while (place < ballot.length && ballot[place] != one) place++;
        return place;
    }

    private int leastOfMost(int[] sums) {
        int most = 0;
        for (int one = 0; one < told.people.size(); one++) most = sums[one] > sums[most] ? one : most;
        return most;
    }

    private int byFirsts(List<Integer> firsts) {
        int[] sums = new int[5];
        for (int one : firsts) sums[one]++;
        return leastOfMost(sums);
    }

    private List<Integer> firsts() {
        List<Integer> firsts = new ArrayList<>();
        for (int[] ballot : ballots) firsts.add(ballot[0]);
        return firsts;
    }

    int mayor(int rule) {
        if (out(rule, 0, 1)) return OUTSIDE;
        if (ballots.isEmpty()) return NONE;
        int[] sums = new int[5];
        for (int one = 0; one < told.people.size(); one++) sums[one] = points(one);
        return rule == 0 ? byFirsts(firsts()) : leastOfMost(sums);
    }

    int points(int one) {
        if (noOne(one)) return UNKNOWN;
        int sum = 0;
        for (int[] ballot : ballots) sum += ballot.length - 1 - placeOf(ballot, one);
        return sum;
    }

    int swing() {
        int bits = 0;
        for (int i = 0; i < ballots.size(); i++) {
            int[] own = ballots.get(i);
            int now = byFirsts(firsts());
            for (int first = 0; first < own.length; first++) {
                List<Integer> otherwise = firsts();
                otherwise.set(i, first);
                if (placeOf(own, byFirsts(otherwise)) < placeOf(own, now)) bits |= 1 << i;
            }
        }
        return bits;
    }

    int count(int what) {
        if (out(what, 0, 13)) return OUTSIDE;
        int earned = 0;
        for (int price : day.sold.values()) earned += price;
        int holding = 0;
        for (int work = 0; work < told.works.size(); work++) holding += day.holds[work] > 0 ? 1 << work : 0;
        return new int[] {told.people.size(), told.works.size(), told.goods.size(), told.length, day.century, day.world, earned,
            holding, marriages(), wordings.size(), ballots.size(), signs.size(), past.size(), text.length()}[what];
    }
}
