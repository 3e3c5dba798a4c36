/** What all tests share: telling a town its text, and noting every answer that is not the one due. */
final class Check {
    static final int NONE = -1, UNKNOWN = -2, OUTSIDE = -3, NOT = -4, FULL = -5;
    /** Numbers at and beyond every bound of the document, for calls that must never throw. */
    static final int[] ODD_NUMBERS = {
        Integer.MIN_VALUE, Integer.MIN_VALUE + 1, -100000, -12, -6, -5, -4, -3, -2, -1, 0, 1, 2, 3, 4, 5, 6, 7, 8, 9,
        10, 13, 14, 31, 32, 33, 63, 64, 99, 100, 255, 256, 999, 1000, 9999, 10000, 43210, 1234, 65521,
        Integer.MAX_VALUE - 1, Integer.MAX_VALUE};

    private static int asked = 0;
    private static int wrong = 0;

    private Check() {
    }

    static void due(String call, long got, long want) {
        asked++;
        if (got != want) {
            wrong++;
            System.out.println(call + " answered " + got + ", due is " + want);
        }
    }

    static void write(CenturyTown x, String text) {
        for (int i = 0; i < text.length(); i++) {
            x.write(text.charAt(i));
        }
    }

    static int tell(CenturyTown x, String text) {
        write(x, text);
        return x.town();
    }

    static CenturyTown told(String... texts) {
        CenturyTown x = new CenturyTown();
        for (String text : texts) {
            if (tell(x, text) < 0) {
                due("town() of " + text, NOT, 0);
            }
        }
        return x;
    }

    /** All that can be asked without changing anything, as one text. */
    static String seen(CenturyTown x) {
        StringBuilder s = new StringBuilder();
        for (int what = 0; what < 14; what++) s.append(x.count(what)).append(' ');
        for (int one = 0; one < 5; one++) {
            for (int what = 0; what < 6; what++) s.append(x.one(one, what)).append(' ');
            s.append(x.points(one)).append(' ');
        }
        for (int work = 0; work < 6; work++) {
            for (int what = 0; what < 5; what++) s.append(x.work(work, what)).append(' ');
        }
        for (int good = 0; good < 5; good++) s.append(x.good(good, 0)).append(' ').append(x.good(good, 1)).append(' ');
        for (int good = 0; good < 5; good++) s.append(x.goodAs(good, 0)).append(' ').append(x.goodAs(good, 1)).append(' ');
        for (int k = 0; k < 7; k++) s.append(x.meant(0, k)).append(' ').append(x.meant(21, k)).append(' ');
        for (int world = 0; world < 4; world++) {
            s.append(x.odds(world, 9, 0)).append(' ').append(x.likely(world, 4, 0)).append(' ');
        }
        s.append(x.fault()).append(' ').append(x.mayor(0)).append(' ').append(x.swing()).append(' ').append(x.bears());
        return s.toString();
    }

    static void same(String call, String got, String want) {
        asked++;
        if (!got.equals(want)) {
            wrong++;
            System.out.println(call + ": it is now " + got + ", it was " + want);
        }
    }

    static void finish(String name) {
        System.out.println(name + ": " + asked + " answers, " + wrong + " not as due");
        if (wrong != 0 || asked == 0) {
            System.exit(1);
        }
    }
}
