import java.util.Random;

/** Refused calls change nothing, calls that ask change nothing, and no call throws or takes its time, whatever it is given. */
public final class RefusedTest {
    private static final String[] TEXTS = {
        "smith;reeve;likes 0 1;likes 1 0;work 0 20 2 9;work 2 30 1 5;grow 5 3;wither 9 2;world 0 1 5",
        "mason;scribe;likes 2 3;likes 3 2;likes 0 3;likes 3 0", "work 1 10 3 4;length 45", "world 1 2 4;world 2 0 9", "wither 3 1",
        "smith;smith;smith;smith", "town;reeve;reeve;work 0 1 1 1", "still", "likes 9 9", "length", "grow 9 9;grow 9 9"};

    private static int number(Random random) {
        return random.nextInt(6) > 0 ? random.nextInt(7) - 1 : Check.ODD_NUMBERS[random.nextInt(Check.ODD_NUMBERS.length)];
    }

    private static long deed(CenturyTown x, Random random, int which) {
        int a = number(random);
        int b = number(random);
        int c = number(random);
        switch (which) {
            case 0: return x.write(a);
            case 1: return x.does(a, b);
            case 2: return x.marry(a, b);
            case 3: return x.sell(a);
            case 4: return x.oversleep(a, b);
            case 5: return x.sleep(a);
            case 6: return x.undo();
            case 7: return x.keep(a);
            case 8: return x.back(a);
            case 9: return x.sign(a, b, c);
            case 10: return x.wording(a);
            case 11: return x.ballot(random.nextBoolean() ? a : random.nextInt(4) * 10 + random.nextInt(2) + 210);
            default: return x.town();
        }
    }

    private static long question(CenturyTown x, Random random, int which) {
        int a = number(random);
        int b = number(random);
        int c = number(random);
        switch (which) {
            case 0: return x.fault();
            case 1: return x.one(a, b);
            case 2: return x.work(a, b);
            case 3: return x.good(a, b);
            case 4: return x.as(a, b);
            case 5: return x.goodAs(a, b);
            case 6: return x.plan();
            case 7: return x.planOf(a);
            case 8: return x.shortest();
            case 9: return x.sale(a, b);
            case 10: return x.odds(a, b, c);
            case 11: return x.likely(a, b, c);
            case 12: return x.bears();
            case 13: return x.meant(a, b);
            case 14: return x.pairs(a);
            case 15: return x.mayor(a);
            case 16: return x.points(a);
            case 17: return x.swing();
            default: return x.count(a);
        }
    }

    private static void runs() {
        Random random = new Random(512);
        for (int run = 0; run < 150; run++) {
            CenturyTown x = new CenturyTown();
            for (int call = 0; call < 250; call++) {
                if (call == 0 || random.nextInt(40) == 0) {
                    x.erase();
                    Check.tell(x, TEXTS[call == 0 ? 0 : random.nextInt(TEXTS.length)]);
                    x.erase();
                }
                if (random.nextInt(30) == 0) x.forget();
                String was = Check.seen(x);
                int which = random.nextInt(13);
                long answer = deed(x, random, which);
                if (answer < Check.NONE) Check.same("refused deed " + which, Check.seen(x), was);
                if (answer < Check.FULL) Check.due("deed " + which, answer, 0);
                was = Check.seen(x);
                which = random.nextInt(19);
                answer = question(x, random, which);
                Check.same("question " + which, Check.seen(x), was);
                if (answer < Check.FULL) Check.due("question " + which, answer, 0);
            }
        }
    }

    /** One town's calls do not reach another's. */
    private static void apart() {
        CenturyTown x = Check.told(TEXTS[0]);
        String was = Check.seen(x);
        CenturyTown y = Check.told(TEXTS[0], TEXTS[1]);
        y.does(0, 0);
        y.sleep(1);
        y.sign(1, 1, 1);
        y.wording(3);
        y.plan();
        Check.same("another town", Check.seen(x), was);
    }

    public static void main(String[] args) {
        runs();
        apart();
        Check.finish("RefusedTest");
    }
}
