import java.util.function.Supplier;
import java.util.function.ToLongFunction;

/** What all tests share: telling a town its text, and noting every answer that is not the one due. */
final class Check {
    static final int NONE = -1, UNKNOWN = -2, OUTSIDE = -3, NOT = -4, FULL = -5;
    /** Numbers at and beyond every bound of the document, for calls that must never throw. */
    static final int[] ODD_NUMBERS = {
        Integer.MIN_VALUE, Integer.MIN_VALUE + 1, -100000, -12, -6, -5, -4, -3, -2, -1, 0, 1, 2, 3, 4, 5, 6, 7, 8, 9,
        10, 13, 14, 31, 32, 33, 63, 64, 99, 100, 255, 256, 999, 1000, 9999, 10000, 43210, 1234, 65521,
        Integer.MAX_VALUE - 1, Integer.MAX_VALUE};
    /** One of PEOPLE of each KIND, and a second SMITH: as many as there can be. */
    static final String FIVE = "smith;mason;scribe;reeve;smith";

    /** A call that is given one number more. */
    interface Asked {
        long of(CenturyTown x, int number);
    }

    private static int asked = 0;
    private static int wrong = 0;
    private static int edges = 0;
    private static String sentence = "";

    private Check() {
    }

    private static void note(String fault) {
        wrong++;
        System.out.println((sentence.isEmpty() ? "" : "[" + sentence + "] ") + fault);
    }

    static void due(String call, long got, long want) {
        asked++;
        if (got != want) {
            note(call + " answered " + got + ", due is " + want);
        }
    }

    /** One sentence of the document that names a boundary case, with the test of its own. */
    static void edge(String words, Runnable test) {
        int before = asked;
        sentence = words;
        edges++;
        try {
            test.run();
        } catch (RuntimeException thrown) {
            note("threw " + thrown);
        }
        if (asked == before) {
            note("asked nothing");
        }
        sentence = "";
    }

    static void write(CenturyTown x, String text) {
        for (int i = 0; i < text.length(); i++) {
            x.write(text.charAt(i));
        }
    }

    static int tell(CenturyTown x, String text) {
        write(x, text);
        return x.town();
    }

    static CenturyTown told(String... texts) {
        CenturyTown x = new CenturyTown();
        for (String text : texts) {
            if (tell(x, text) < 0) {
                due("town() of " + text, NOT, 0);
            }
        }
        return x;
    }

    /** The call is refused so, and all that can be found out later is as if it had not been made. */
    static void refused(String call, Supplier<CenturyTown> made, ToLongFunction<CenturyTown> deed, long want) {
        due(call, deed.applyAsLong(made.get()), want);
        unchanged(call, made, deed);
    }

    /** Two towns are made alike, and the call is made on one of them alone: they must go on alike. */
    static void unchanged(String call, Supplier<CenturyTown> made, ToLongFunction<CenturyTown> deed) {
        for (int view = 0; view < 4; view++) {
            CenturyTown x = made.get();
            CenturyTown y = made.get();
            deed.applyAsLong(y);
            same(call, viewed(y, view), viewed(x, view));
        }
    }

    /** The least and the greatest number are taken; one beyond each, and the farthest, are refused and change nothing. */
    static void bounds(String call, Supplier<CenturyTown> made, int least, int greatest, int refusal, Asked deed) {
        int[] inside = {least, greatest};
        for (int number : inside) {
            long got = deed.of(made.get(), number);
            due(call + " of " + number + " is taken", got < NONE ? got : 0, 0);
        }
        int[] beyond = {least - 1, greatest + 1, Integer.MIN_VALUE, Integer.MAX_VALUE};
        for (int number : beyond) {
            refused(call + " of " + number, made, x -> deed.of(x, number), refusal);
        }
    }

    /** Each view is of a town made anew, so that none asks more than the 512 calls that an object is good for. */
    private static String viewed(CenturyTown x, int view) {
        StringBuilder s = new StringBuilder();
        switch (view) {
            case 0:
                return seen(x);
            case 1:
                for (int left = x.undo(); left >= 0; left = x.undo()) s.append(left).append(": ").append(day(x));
                return s.toString();
            case 2:
                for (int k = 0; k < 2; k++) s.append(x.back(k)).append(": ").append(day(x));
                return s.toString();
            default:
                return s.append(x.town()).append(": ").append(seen(x)).toString();
        }
    }

    /** All that a day or a CENTURY changes. */
    static String day(CenturyTown x) {
        StringBuilder s = new StringBuilder();
        int people = x.count(0);
        int works = x.count(1);
        int goods = x.count(2);
        for (int what = 4; what < 9; what++) s.append(x.count(what)).append(' ');
        for (int one = 0; one < people; one++) {
            for (int what = 2; what < 6; what++) s.append(x.one(one, what)).append(' ');
        }
        for (int work = 0; work < works; work++) s.append(x.work(work, 4)).append(' ');
        for (int good = 0; good < goods; good++) s.append(x.good(good, 1)).append(' ');
        return s.toString();
    }

    /** What can be asked without changing anything, as one text, in some 170 calls. */
    static String seen(CenturyTown x) {
        StringBuilder s = new StringBuilder();
        for (int what = 0; what < 14; what++) s.append(x.count(what)).append(' ');
        for (int one = 0; one < 5; one++) {
            for (int what = 0; what < 6; what++) s.append(x.one(one, what)).append(' ');
            s.append(x.points(one)).append(' ').append(x.as(one, 0)).append(' ');
        }
        for (int work = 0; work < 6; work++) {
            for (int what = 0; what < 5; what++) s.append(x.work(work, what)).append(' ');
            s.append(x.planOf(work)).append(' ');
        }
        for (int good = 0; good < 5; good++) {
            s.append(x.good(good, 0)).append(' ').append(x.good(good, 1)).append(' ');
            s.append(x.goodAs(good, 1)).append(' ').append(x.sale(9, good)).append(' ');
        }
        for (int k = 0; k < 7; k++) s.append(x.meant(0, k)).append(' ').append(x.meant(21, k)).append(' ');
        for (int world = 0; world < 4; world++) {
            s.append(x.odds(world, 1, 0)).append(' ').append(x.odds(world, 1, 1)).append(' ');
            s.append(x.likely(world, 4, 0)).append(' ').append(x.likely(world, 0, 1)).append(' ');
        }
        s.append(x.plan()).append(' ').append(x.shortest()).append(' ').append(x.sale(9, NONE)).append(' ');
        for (int what = 0; what < 3; what++) s.append(x.pairs(what)).append(' ');
        s.append(x.mayor(0)).append(' ').append(x.mayor(1)).append(' ').append(x.swing()).append(' ');
        return s.append(x.bears()).append(' ').append(x.fault()).toString();
    }

    static void same(String call, String got, String want) {
        asked++;
        if (!got.equals(want)) {
            note(call + ": it is now " + got + ", it was " + want);
        }
    }

    static void finish(String name) {
        String told = edges > 0 ? edges + " sentences, " : "";
        System.out.println(name + ": " + told + asked + " answers, " + wrong + " not as due");
        if (wrong != 0 || asked == 0) {
            System.exit(1);
        }
    }
}
