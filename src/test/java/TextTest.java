/** Promises 1 to 5: a new object, write, erase, fault, town. */
public final class TextTest {
    private static void faultOf(String text, int want, String... ahead) {
        CenturyTown x = Check.told(ahead);
        Check.write(x, text);
        String was = Check.seen(x);
        Check.due("fault() of '" + text + "'", x.fault(), want);
        if (want != Check.NONE) {
            Check.due("town() of '" + text + "'", x.town(), Check.NOT);
            Check.same("town() refused '" + text + "'", Check.seen(x), was);
        } else {
            int clauses = 1;
            for (char c : text.toCharArray()) clauses += c == ';' ? 1 : 0;
            Check.due("town() of '" + text + "'", x.town(), clauses);
            Check.due("letters behind '" + text + "'", x.count(13), 0);
        }
    }

    private static void newObject() {
        CenturyTown x = new CenturyTown();
        for (int what = 0; what < 14; what++) {
            Check.due("new count(" + what + ")", x.count(what), what == 3 ? 60 : 0);
        }
        Check.due("new back(0)", x.back(0), Check.NOT);
        for (int world = 0; world < 4; world++) {
            Check.due("new odds", x.odds(world, 9, 0), world == 0 ? 1 : 0);
            Check.due("new odds", x.odds(world, 9, 1), 1);
        }
        Check.due("new undo()", x.undo(), Check.NOT);
        Check.due("new bears()", x.bears(), Check.NONE);
        Check.due("new mayor(0)", x.mayor(0), Check.NONE);
    }

    private static void writing() {
        CenturyTown x = new CenturyTown();
        Check.due("write(-1)", x.write(-1), Check.OUTSIDE);
        Check.due("write(256)", x.write(256), Check.OUTSIDE);
        Check.due("write(0)", x.write(0), 1);
        Check.due("write(255)", x.write(255), 2);
        Check.due("fault() at 0", x.fault(), 0);
        for (int i = 3; i <= 160; i++) Check.due("write " + i, x.write(' '), i);
        Check.due("write 161", x.write('a'), Check.FULL);
        Check.due("write(256) when full", x.write(256), Check.OUTSIDE);
        Check.due("letters", x.count(13), 160);
        Check.due("erase()", x.erase(), 160);
        Check.due("erase() again", x.erase(), 0);
        Check.due("write after erase", x.write('s'), 1);
    }

    private static void words() {
        String[] plain = {"town", "smith", "mason", "scribe", "reeve", "work 0 1 1 0", "grow 0 0", "wither 0 0",
            "length 1", "world 0 1 0", "still"};
        for (String word : plain) {
            faultOf(word, Check.NONE);
            faultOf("  " + word + "  ", Check.NONE);
            faultOf(word + ";" + word, Check.NONE);
            faultOf(word + " ; " + word, Check.NONE);
            faultOf(word + ";", word.length() + 1);
            faultOf(word + "; ", word.length() + 2);
            faultOf(word + " town", word.length() + 1);
            faultOf(word + " 7", word.length() + 1);
            faultOf(word + ".", word.length());
            faultOf(";" + word, 0);
            faultOf("still;;" + word, 6);
        }
        faultOf("", 0);
        faultOf("   ", 3);
        faultOf("Town", 0);
        faultOf("towns", 0);
        faultOf("tow", 0);
        faultOf("townz", 0);
        faultOf("atown", 0);
        faultOf("rown", 0);
        faultOf("stilt", 0);
        faultOf("town`", 4);
        faultOf("town{", 4);
        faultOf("length 9/", 8);
        faultOf("length 9:", 8);
        faultOf("length 9z", 8);
        faultOf("7", 0);
        faultOf("\ttown", 0);
        faultOf("town" + (char) 233, 4);
        faultOf("smith;mayor", 6);
        faultOf("smith mason", 6);
    }

    private static void bounds() {
        faultOf("work 2 60 9 50", Check.NONE);
        faultOf("work 02 01 09 00", Check.NONE);
        faultOf("work0 1 1 0", Check.NONE);
        faultOf("work 3 1 1 1", 5);
        faultOf("work 0 0 1 1", 7);
        faultOf("work 0 61 1 1", 7);
        faultOf("work 0 1 0 1", 9);
        faultOf("work 0 1 10 1", 9);
        faultOf("work 0 1 1 51", 11);
        faultOf("work 0 1 1 001", 11);
        faultOf("work 0 1 1", 10);
        faultOf("work 0 1 1 ", 11);
        faultOf("work 0 1 1;", 10);
        faultOf("work 0 x 1", 7);
        faultOf("work 0 -1 1 1", 7);
        faultOf("work", 4);
        faultOf("grow 99 9", Check.NONE);
        faultOf("grow 100 9", 5);
        faultOf("grow 99 10", 8);
        faultOf("wither 99 9", Check.NONE);
        faultOf("wither 100 9", 7);
        faultOf("wither 9 10", 9);
        faultOf("wither 9", 8);
        faultOf("length 99", Check.NONE);
        faultOf("length 0", 7);
        faultOf("length 100", 7);
        faultOf("length 00000000000000000000000000001", 7);
        faultOf("length", 6);
        faultOf("world 3 2 9", Check.NONE);
        faultOf("world 4 2 9", 6);
        faultOf("world 3 4 9", 8);
        faultOf("world 3 3 9", 8);
        faultOf("world 3 03 99", 8);
        faultOf("world 3 2 10", 10);
        faultOf("world 3 2", 9);
        faultOf("length99", Check.NONE);
    }

    private static void peopleAhead() {
        faultOf("likes 0 1", 6);
        faultOf("smith;likes 0 1", 14);
        faultOf("smith;likes 0 0", 14);
        faultOf("smith;likes 1 0", 12);
        faultOf("smith;smith;likes 0 1", Check.NONE);
        faultOf("likes 0 1;smith;smith", 6);
        faultOf("likes 0 1", Check.NONE, "smith;mason");
        faultOf("likes 1 01", 8, "smith;mason");
        faultOf("town;likes 0 1", 11, "smith;mason");
        faultOf("likes 0 2", 8, "smith;mason");
        faultOf("mason;likes 0 2", Check.NONE, "smith;mason");
        String five = "smith;mason;scribe;reeve;smith";
        faultOf(five, Check.NONE);
        faultOf(five + ";reeve", five.length() + 1);
        faultOf("smith", 0, five);
        faultOf("town;" + five, Check.NONE, five);
        faultOf("likes 4 3", Check.NONE, five);
        faultOf("likes 5 3", 6, five);
    }

    private static void room() {
        String works = "work 0 1 1 1;work 0 1 1 1;work 0 1 1 1;work 0 1 1 1;work 0 1 1 1;work 0 1 1 1";
        faultOf(works, Check.NONE);
        faultOf(works + ";work 9", works.length() + 1);
        faultOf("grow 1 1;work 0 1 1 1", 9, works);
        String goods = "grow 1 1;wither 1 1;grow 1 1;wither 1 1;grow 1 1";
        faultOf(goods, Check.NONE);
        faultOf(goods + ";wither 1 1", goods.length() + 1);
        faultOf(goods + ";grow 1 1", goods.length() + 1);
        faultOf("grow 1 1", 0, goods);
        StringBuilder many = new StringBuilder("still");
        for (int i = 2; i <= 14; i++) many.append(";still");
        faultOf(many.toString(), Check.NONE);
        faultOf(many + ";still", many.length());
        faultOf(many + ";", many.length());
    }

    private static void stays() {
        CenturyTown x = Check.told("smith;mason;work 1 5 2 7;grow 4 2;length 40;world 0 1 3", "scribe;likes 2 0");
        Check.due("PEOPLE of two texts", x.count(0), 3);
        Check.due("WORKS stay", x.work(0, 3), 7);
        Check.due("GOODS stay", x.good(0, 0), 4);
        Check.due("LENGTH stays", x.count(3), 40);
        Check.due("likes", x.one(2, 1), 1);
        Check.due("world stays told", x.odds(1, 1, 0), 3);
        Check.tell(x, "world 0 2 5");
        Check.due("in place of B", x.odds(1, 1, 0), 0);
        Check.due("in place of B", x.odds(2, 1, 1), 2);
        Check.tell(x, "still");
        Check.due("still", x.odds(0, 9, 1), 1);
        Check.tell(x, "world 0 1 1;world 1 2 1;world 2 3 1;world 3 0 1;still");
        for (int world = 0; world < 4; world++) {
            Check.due("still", x.likely(world, 0, 1), 4);
            x.sign(world, 9, 1);
            Check.due("still", x.likely(world, 0, 1), 1);
            Check.due("still", x.likely(world, 0, 0), 1);
            x.forget();
        }
        Check.due("still leaves PEOPLE", x.count(0), 3);
        Check.tell(x, "world 0 1 9;length 7;town;reeve");
        Check.due("town, then one", x.count(0), 1);
        Check.due("town: LENGTH", x.count(3), 60);
        Check.due("town: MINUTES", x.one(0, 2), 60);
        Check.due("town: likes", x.one(0, 1), 0);
        Check.due("town: WORKS", x.count(1), 0);
        Check.due("town: GOODS", x.count(2), 0);
        Check.due("town: THE WORLD", x.odds(0, 9, 1), 1);
    }

    private static void behindText() {
        CenturyTown x = Check.told("smith;reeve;work 0 5 2 7;grow 4 2;world 0 1 9;likes 0 1;likes 1 0");
        x.does(0, 0);
        x.marry(0, 1);
        x.sell(0);
        x.oversleep(0, 1);
        for (int i = 0; i < 5; i++) x.sleep(i);
        x.oversleep(1, 1);
        x.sleep(0);
        x.does(0, 0);
        x.oversleep(1, 1);
        x.keep(0);
        x.wording(3);
        x.ballot(10);
        x.sign(0, 0, 1);
        Check.due("CENTURY", x.count(4), 6);
        Check.due("town()", Check.tell(x, "length 50"), 1);
        for (int what = 4; what < 14; what++) Check.due("count(" + what + ") behind a text", x.count(what), 0);
        for (int one = 0; one < 2; one++) {
            Check.due("MINUTES", x.one(one, 2), 50);
            Check.due("married", x.one(one, 3), Check.NONE);
            Check.due("ASLEEP", x.one(one, 4), 0);
            Check.due("OVERSLEPT", x.one(one, 5), 0);
        }
        Check.due("FALLS", x.work(0, 4), 0);
        Check.due("WORTH", x.good(0, 0), 4);
        Check.due("SOLD", x.good(0, 1), 0);
        Check.due("kept", x.back(0), Check.NOT);
        Check.due("undo()", x.undo(), Check.NOT);
    }

    public static void main(String[] args) {
        newObject();
        writing();
        words();
        bounds();
        peopleAhead();
        room();
        stays();
        behindText();
        Check.finish("TextTest");
    }
}
