import java.lang.reflect.Method;
import java.util.ArrayList;
import java.util.Collections;
import java.util.HashMap;
import java.util.List;
import java.util.Map;
import java.util.Random;

/** Promises 1 to 35 together: whole runs of calls by chance, each answer against the second town, Plain. */
public final class PlainTest {
    private static final int CALLS = 512;
    /** A call, how often it is made, and the greatest of each of its numbers (the least is 0). */
    private static final String[] CALLS_BY_CHANCE = {
        "does 14 4 5", "marry 6 4 4", "sell 3 4", "oversleep 5 4 1", "sleep 6 9999", "undo 5", "keep 2 1", "back 2 1",
        "plan 2", "planOf 3 5", "shortest 1", "sale 3 9 4", "odds 4 3 9 1", "sign 3 3 9 1", "forget 1", "likely 5 3 9 1",
        "wording 4 63", "bears 2", "meant 3 63 6", "pairs 5 2", "ballot 6 43210", "mayor 4 1", "points 3 4", "swing 3",
        "count 6 13", "one 8 4 5", "work 4 5 4", "good 4 4 1", "as 5 4 5", "goodAs 3 4 2", "write 1 255", "fault 1", "tell 1"};
    private static final String[] KINDS = {"smith", "mason", "scribe", "reeve"};

    private final Random random;
    private final CenturyTown town = new CenturyTown();
    private final Plain plain = new Plain();
    private final Map<String, Method> ofTown = new HashMap<>();
    private final Map<String, Method> ofPlain = new HashMap<>();
    private final StringBuilder run = new StringBuilder();
    private int calls = 0;
    private boolean alike = true;

    private PlainTest(int seed) {
        random = new Random(seed);
        for (Method m : CenturyTown.class.getDeclaredMethods()) ofTown.put(m.getName(), m);
        for (Method m : Plain.class.getDeclaredMethods()) {
            if (ofTown.containsKey(m.getName())) ofPlain.put(m.getName(), m);
        }
        run.append("run ").append(seed).append(": ");
    }

    /** Makes the call on both towns; the first answers that differ end the run, and are told with all calls ahead. */
    private long call(String name, Object... numbers) throws ReflectiveOperationException {
        if (calls >= CALLS || !alike) return 0;
        calls++;
        String said = name + List.of(numbers);
        long got = ((Number) ofTown.get(name).invoke(town, numbers)).longValue();
        long want = ((Number) ofPlain.get(name).invoke(plain, numbers)).longValue();
        run.append(said).append(' ');
        alike = got == want;
        Check.due(alike ? said : run.toString(), got, want);
        return want;
    }

    private boolean in(int chances) {
        return random.nextInt(chances) == 0;
    }

    private int upTo(int most) {
        return random.nextInt(most + 1);
    }

    private void addClauses(List<String> clauses, int[] there) {
        switch (random.nextInt(9)) {
            case 0: case 1: case 2:
                if (there[0] < 5) clauses.add(KINDS[random.nextInt(4)]);
                there[0] = Math.min(5, there[0] + 1);
                return;
            case 3: case 4:
                if (there[0] < 2) return;
                int one = random.nextInt(there[0]);
                int other = (one + 1 + random.nextInt(there[0] - 1)) % there[0];
                clauses.add("likes " + one + " " + other);
                if (!in(5)) clauses.add("likes " + other + " " + one);
                return;
            case 5: case 6:
                if (there[1] < 6) {
                    clauses.add("work " + upTo(2) + " " + (1 + upTo(in(2) ? 19 : 59)) + " " + (1 + upTo(in(2) ? 1 : 8)) + " "
                        + upTo(in(2) ? 3 : 50));
                }
                there[1] = Math.min(6, there[1] + 1);
                return;
            case 7:
                if (there[2] < 5) clauses.add((in(2) ? "grow " : "wither ") + upTo(in(2) ? 9 : 99) + " " + upTo(9));
                there[2] = Math.min(5, there[2] + 1);
                return;
            default:
                int from = upTo(3);
                clauses.add(in(9) ? "still" : in(4) ? "length " + (1 + upTo(98))
                    : "world " + from + " " + (from + 1 + upTo(2)) % 4 + " " + upTo(9));
        }
    }

    /** A text that mostly stands; one in six has letters altered, put in or left out. */
    private String someText() {
        List<String> clauses = new ArrayList<>();
        int[] there = {plain.told.people.size(), plain.told.works.size(), plain.told.goods.size()};
        if (in(10)) {
            clauses.add("town");
            there = new int[3];
        }
        int wanted = 3 + upTo(11);
        for (int i = 0; i < 40 && clauses.size() < wanted; i++) addClauses(clauses, there);
        if (in(20)) Collections.shuffle(clauses, random);
        if (in(20)) clauses.addAll(Collections.nCopies(13, "still"));
        StringBuilder text = new StringBuilder(String.join(in(4) ? " ; " : ";", clauses));
        while (text.length() > 160) text.setLength(Math.max(0, text.lastIndexOf(";")));
        for (int i = in(6) ? 1 + upTo(2) : 0; i > 0 && text.length() > 1; i--) {
            int at = random.nextInt(text.length());
            String put = String.valueOf(" ;019az.A".charAt(random.nextInt(9)));
            text.replace(at, in(2) ? at : at + 1, in(3) ? "" : put);
        }
        return text.toString();
    }

    private void tell() throws ReflectiveOperationException {
        if (!in(4)) call("erase");
        String text = someText();
        for (int i = 0; i < text.length(); i++) call("write", (int) text.charAt(i));
        if (in(2)) call("fault");
        if (call("town") == Check.NOT) call("fault");
    }

    private int someBallot() {
        List<Integer> row = new ArrayList<>();
        for (int one = 0; one < plain.told.people.size(); one++) row.add(one);
        Collections.shuffle(row, random);
        int digits = 0;
        for (int one : row) digits = digits * 10 + one;
        return digits;
    }

    private int someNumber(String name, int most) {
        if (in(25)) return in(2) ? most + 1 : Check.ODD_NUMBERS[random.nextInt(Check.ODD_NUMBERS.length)];
        if (name.equals("ballot") && !in(8)) return someBallot();
        if (name.equals("sale") && most == 4 && in(3)) return Check.NONE;
        return upTo(most);
    }

    private void someCall(List<String> often) throws ReflectiveOperationException {
        String[] shape = often.get(random.nextInt(often.size())).split(" ");
        if (shape[0].equals("tell")) {
            if (calls < 300 && in(3)) tell();
            return;
        }
        Object[] numbers = new Object[shape.length - 2];
        for (int i = 0; i < numbers.length; i++) numbers[i] = someNumber(shape[0], Integer.parseInt(shape[i + 2]));
        call(shape[0], numbers);
    }

    private void play() throws ReflectiveOperationException {
        List<String> often = new ArrayList<>();
        for (String shape : CALLS_BY_CHANCE) {
            for (int i = Integer.parseInt(shape.split(" ")[1]); i > 0; i--) often.add(shape);
        }
        if (!in(10)) tell();
        while (calls < 250 && !in(20) && (plain.told.people.size() < 3 || plain.told.works.size() < 2)) tell();
        for (int i = 0; i < 2 * CALLS && calls < CALLS && alike; i++) someCall(often);
    }

    public static void main(String[] args) throws ReflectiveOperationException {
        for (int seed = 0; seed < 200; seed++) new PlainTest(seed).play();
        Check.finish("PlainTest");
    }
}
