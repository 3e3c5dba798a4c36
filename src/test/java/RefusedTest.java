import java.util.ArrayList;
import java.util.List;
import java.util.Random;

/** Refused calls change nothing, calls that ask change nothing, and no call throws or takes its time, whatever it is given. */
public final class RefusedTest {
    private static final String[] TEXTS = {
        "smith;reeve;likes 0 1;likes 1 0;work 0 20 2 9;work 2 30 1 5;grow 5 3;wither 9 2;world 0 1 5",
        "mason;scribe;likes 2 3;likes 3 2;likes 0 3", "work 1 10 3 4;length 45", "world 1 2 4;world 2 0 9", "wither 3 1",
        "smith;smith;smith;smith", "town;reeve;reeve;work 0 1 1 1", "still", "likes 9 9", "length", "grow 9 9;grow 9 9"};
    private static final int DEEDS = 14, QUESTIONS = 19;

    private static int number(Random random) {
        return random.nextInt(6) > 0 ? random.nextInt(7) - 1 : Check.ODD_NUMBERS[random.nextInt(Check.ODD_NUMBERS.length)];
    }

    private static int[] callOf(Random random, int which) {
        int[] call = {which, number(random), number(random), number(random)};
        if (which == 11 && random.nextBoolean()) call[1] = random.nextInt(4) * 10 + random.nextInt(2) + 210;
        return call;
    }

    private static long made(CenturyTown x, int[] call) {
        int a = call[1];
        int b = call[2];
        int c = call[3];
        switch (call[0]) {
            case 0: return x.write(a);
            case 1: return x.does(a, b);
            case 2: return x.marry(a, b);
            case 3: return x.sell(a);
            case 4: return x.oversleep(a, b);
            case 5: return x.sleep(a);
            case 6: return x.undo();
            case 7: return x.keep(a);
            case 8: return x.back(a);
            case 9: return x.sign(a, b, c);
            case 10: return x.wording(a);
            case 11: return x.ballot(a);
            case 12: return x.town();
            case 13: return x.forget();
            default: return asked(x, call[0] - DEEDS, a, b, c);
        }
    }

    private static long asked(CenturyTown x, int which, int a, int b, int c) {
        switch (which) {
            case 0: return x.fault();
            case 1: return x.one(a, b);
            case 2: return x.work(a, b);
            case 3: return x.good(a, b);
            case 4: return x.as(a, b);
            case 5: return x.goodAs(a, b);
            case 6: return x.plan();
            case 7: return x.planOf(a);
            case 8: return x.shortest();
            case 9: return x.sale(a, b);
            case 10: return x.odds(a, b, c);
            case 11: return x.likely(a, b, c);
            case 12: return x.bears();
            case 13: return x.meant(a, b);
            case 14: return x.pairs(a);
            case 15: return x.mayor(a);
            case 16: return x.points(a);
            case 17: return x.swing();
            default: return x.count(a);
        }
    }

    private static CenturyTown replayed(String text, List<int[]> calls) {
        CenturyTown x = Check.told(TEXTS[0]);
        Check.tell(x, text);
        x.erase();
        for (int[] call : calls) made(x, call);
        return x;
    }

    /** A run of deeds; between them a refused one, or a question, must leave no trace. */
    private static void run(Random random) {
        String text = TEXTS[1 + random.nextInt(TEXTS.length - 1)];
        List<int[]> calls = new ArrayList<>();
        for (int i = 0; i < 50; i++) {
            int[] call = callOf(random, random.nextInt(DEEDS));
            String name = "call " + call[0] + " (" + call[1] + ", " + call[2] + ", " + call[3] + ")";
            List<int[]> ahead = new ArrayList<>(calls);
            long answer = made(replayed(text, ahead), call);
            if (answer < Check.FULL) Check.due(name, answer, 0);
            if (answer < Check.NONE && random.nextInt(4) == 0) {
                Check.unchanged(name, () -> replayed(text, ahead), x -> made(x, call));
            }
            calls.add(call);
            if (random.nextInt(8) == 0) {
                int[] question = callOf(random, DEEDS + random.nextInt(QUESTIONS));
                Check.unchanged("question " + question[0], () -> replayed(text, calls), x -> made(x, question));
            }
        }
    }

    /** Every call with odd numbers alone, in every town: it answers. */
    private static void oddNumbers() {
        for (int which = 0; which < DEEDS + QUESTIONS; which++) {
            for (int a : Check.ODD_NUMBERS) {
                CenturyTown[] towns = {new CenturyTown(), Towns.busy(), Towns.crowded(), Towns.talkative(), Towns.lettered()};
                for (CenturyTown x : towns) {
                    for (int b = -2; b < 11; b += 3) {
                        long answer = made(x, new int[] {which, a, b, a});
                        Check.due("call " + which + " of " + a + ", " + b, Math.max(answer, Check.FULL), answer);
                    }
                }
            }
        }
    }

    /** One town's calls do not reach another's. */
    private static void apart() {
        CenturyTown x = Check.told(TEXTS[0]);
        String was = Check.seen(x);
        CenturyTown y = Check.told(TEXTS[0], TEXTS[1]);
        y.does(0, 0);
        y.sleep(1);
        y.sign(1, 1, 1);
        y.wording(3);
        y.plan();
        Check.same("another town", Check.seen(x), was);
    }

    public static void main(String[] args) {
        Random random = new Random(512);
        for (int i = 0; i < 100; i++) run(random);
        oddNumbers();
        apart();
        Check.finish("RefusedTest");
    }
}
