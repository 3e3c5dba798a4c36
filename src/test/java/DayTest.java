/** Promises 11 to 18: does, marry, sell, oversleep, sleep, undo, keep, back. */
public final class DayTest {
    private static void doing() {
        CenturyTown x = Check.told("smith;reeve;work 0 30 2 5;work 1 31 1 5;work 2 1 1 0");
        Check.due("does(2, 0)", x.does(2, 0), Check.UNKNOWN);
        Check.due("does(-1, 0)", x.does(-1, 0), Check.UNKNOWN);
        Check.due("does(0, 3)", x.does(0, 3), Check.UNKNOWN);
        Check.due("does(0, -1)", x.does(0, -1), Check.UNKNOWN);
        Check.due("without its SKILL", x.does(0, 1), Check.NOT);
        Check.due("none to undo", x.count(12), 0);
        Check.due("does(0, 0)", x.does(0, 0), 30);
        x.sleep(0);
        Check.due("FALLS", x.work(0, 4), 1);
        Check.due("does it while it HOLDS", x.does(1, 0), 30);
        Check.due("it HOLDS anew", x.work(0, 4), 2);
        Check.due("too few MINUTES", x.does(1, 1), Check.NOT);
        Check.due("as many as are left", x.does(1, 0), 0);
        Check.due("none left", x.does(1, 2), Check.NOT);
        x.oversleep(0, 1);
        x.sleep(0);
        Check.due("ASLEEP", x.does(0, 0), Check.NOT);
        x.sleep(0);
        Check.due("awake", x.does(0, 0), 30);
    }

    private static void marrying() {
        CenturyTown x = Check.told("smith;smith;smith;smith;likes 0 1;likes 1 0;likes 1 2;likes 2 1;likes 2 3;likes 3 2;likes 3 0");
        Check.due("marry(0, 0)", x.marry(0, 0), Check.UNKNOWN);
        Check.due("marry(0, 4)", x.marry(0, 4), Check.UNKNOWN);
        Check.due("marry(-1, 0)", x.marry(-1, 0), Check.UNKNOWN);
        Check.due("liked by one alone", x.marry(3, 0), Check.NOT);
        Check.due("liked by the other alone", x.marry(0, 3), Check.NOT);
        Check.due("unliked", x.marry(0, 2), Check.NOT);
        x.oversleep(2, 1);
        x.sleep(0);
        Check.due("marry(2, 1)", x.marry(2, 1), 1);
        Check.due("to whom", x.one(2, 3), 1);
        Check.due("to whom", x.one(1, 3), 2);
        Check.due("MINUTES none", x.one(1, 2), 60);
        Check.due("again", x.marry(1, 2), Check.NOT);
        Check.due("one is married", x.marry(0, 1), Check.NOT);
        Check.due("the other is", x.marry(3, 2), Check.NOT);
        x.undo();
        Check.due("undone", x.one(1, 3), Check.NONE);
        Check.due("marry(0, 1)", x.marry(0, 1), 1);
        Check.due("marry(3, 2)", x.marry(3, 2), 2);
        x.sleep(0);
        Check.due("it lasts", x.count(8), 2);
    }

    private static void selling() {
        CenturyTown x = Check.told("grow 5 3;wither 7 3");
        Check.due("sell(2)", x.sell(2), Check.UNKNOWN);
        Check.due("sell(-1)", x.sell(-1), Check.UNKNOWN);
        x.sleep(0);
        x.sleep(0);
        Check.due("sell(0)", x.sell(0), 11);
        Check.due("sell(0) again", x.sell(0), Check.NOT);
        Check.due("earned", x.count(6), 11);
        Check.due("sell(1)", x.sell(1), 1);
        Check.due("earned", x.count(6), 12);
        x.undo();
        Check.due("earned", x.count(6), 11);
        x.sleep(0);
        Check.due("withered", x.sell(1), 0);
        Check.due("SOLD for nothing", x.sell(1), Check.NOT);
    }

    private static void oversleeping() {
        CenturyTown x = Check.told("smith;smith");
        Check.due("oversleep(2, 2)", x.oversleep(2, 2), Check.UNKNOWN);
        Check.due("oversleep(-1, 0)", x.oversleep(-1, 0), Check.UNKNOWN);
        Check.due("oversleep(0, 2)", x.oversleep(0, 2), Check.OUTSIDE);
        Check.due("oversleep(0, -1)", x.oversleep(0, -1), Check.OUTSIDE);
        Check.due("was not to", x.oversleep(0, 1), 0);
        Check.due("was to", x.oversleep(0, 1), 1);
        Check.due("was to", x.oversleep(0, 0), 1);
        Check.due("was not to", x.oversleep(0, 0), 0);
        Check.due("each can be undone", x.count(12), 4);
        Check.due("undo()", x.undo(), 3);
        Check.due("undo()", x.undo(), 2);
        Check.due("was to", x.one(0, 5), 1);
        x.sleep(0);
        Check.due("ASLEEP", x.one(0, 4), 1);
        Check.due("the other is not", x.one(1, 4), 0);
        x.oversleep(0, 1);
        x.sleep(0);
        Check.due("ASLEEP again", x.one(0, 4), 1);
        x.sleep(0);
        Check.due("wakes", x.one(0, 4), 0);
    }

    private static void sleeping() {
        CenturyTown x = Check.told("reeve;length 99;work 0 1 1 1;work 0 1 2 1;work 0 1 9 1;work 0 1 1 1;work 0 1 1 1");
        Check.due("sleep(-1)", x.sleep(-1), Check.OUTSIDE);
        Check.due("sleep(10000)", x.sleep(10000), Check.OUTSIDE);
        for (int work = 0; work < 4; work++) x.does(0, work);
        Check.due("HOLD", x.count(7), 15);
        Check.due("sleep(9999)", x.sleep(9999), 9);
        Check.due("HOLD", x.count(7), 6);
        Check.due("MINUTES again", x.one(0, 2), 99);
        Check.due("sleep(0)", x.sleep(0), 2);
        for (int century = 3; century < 9; century++) Check.due("sleep", x.sleep(0), 0);
        Check.due("the ninth", x.sleep(0), 4);
        Check.due("CENTURY", x.count(4), 9);
    }

    private static void worldGoesOn() {
        for (int chance = 0; chance < 10; chance++) {
            CenturyTown x = Check.told("world 0 1 " + chance + ";world 1 2 " + chance + ";world 2 3 9;world 3 0 1");
            int[] tenths = {chance, chance, 9, 1};
            int world = 0;
            for (int century = 0; century < 200; century++) {
                long z = (century * 7919L + chance * 104729L) % 10000;
                if (century == 3) z = 9999;
                if (century == 4) z = 0;
                long draw = (z * z + 31 * z + 17L * century + 5) % 65521 % 10;
                if (draw < tenths[world]) world = (world + 1) % 4;
                x.sleep((int) z);
                Check.due("THE WORLD behind " + century, x.count(5), world);
            }
        }
    }

    private static void undoing() {
        CenturyTown x = Check.told("reeve;reeve;length 9;likes 0 1;likes 1 0;work 0 1 2 3;grow 5 1;world 0 1 9");
        String[] was = new String[12];
        for (int deed = 0; deed < 11; deed++) {
            was[deed] = Check.day(x);
            switch (deed) {
                case 3: x.marry(0, 1); break;
                case 4: x.sell(0); break;
                case 5: case 8: x.sleep(deed); break;
                case 6: case 7: x.oversleep(0, deed % 2); break;
                default: x.does(1, 0); break;
            }
            Check.due("can be undone", x.count(12), Math.min(8, deed + 1));
        }
        Check.due("a refused deed", x.sell(0), Check.NOT);
        Check.due("cannot be undone", x.count(12), 8);
        for (int deed = 10; deed >= 3; deed--) {
            Check.due("undo()", x.undo(), deed - 3);
            Check.same("undo()", Check.day(x), was[deed]);
        }
        Check.due("undo() no more", x.undo(), Check.NOT);
        x.does(0, 0);
        Check.due("undo() of a deed behind undoing", x.undo(), 0);
        Check.same("undo()", Check.day(x), was[3]);
    }

    private static void keeping() {
        CenturyTown x = Check.told("reeve;reeve;likes 0 1;likes 1 0;work 0 1 3 3;grow 5 1;world 0 1 9");
        Check.due("keep(-1)", x.keep(-1), Check.UNKNOWN);
        Check.due("keep(2)", x.keep(2), Check.UNKNOWN);
        Check.due("back(-1)", x.back(-1), Check.UNKNOWN);
        Check.due("back(2)", x.back(2), Check.UNKNOWN);
        Check.due("back(0)", x.back(0), Check.NOT);
        x.does(0, 0);
        x.oversleep(1, 1);
        String first = Check.day(x);
        Check.due("keep(0)", x.keep(0), 0);
        Check.due("back(1)", x.back(1), Check.NOT);
        x.marry(0, 1);
        x.sell(0);
        x.sleep(2);
        String second = Check.day(x);
        Check.due("keep(1)", x.keep(1), 1);
        x.sleep(3);
        Check.due("can be undone", x.count(12), 6);
        Check.due("back(0)", x.back(0), 0);
        Check.same("back(0)", Check.day(x), first);
        Check.due("undo() behind back", x.undo(), Check.NOT);
        Check.due("back(1)", x.back(1), 1);
        Check.same("back(1)", Check.day(x), second);
        x.sleep(4);
        Check.due("keep(0) again", x.keep(0), 2);
        Check.due("keep leaves what can be undone", x.count(12), 1);
        x.undo();
        Check.due("back(0)", x.back(0), 2);
        Check.due("back(1) twice", x.back(1), 1);
        x.wording(1);
        x.ballot(10);
        x.sign(0, 0, 1);
        Check.due("back(0)", x.back(0), 2);
        for (int what = 9; what < 12; what++) Check.due("count(" + what + ") stays", x.count(what), 1);
        Check.tell(x, "still");
        Check.due("back(0) behind a text", x.back(0), Check.NOT);
        Check.due("back(1) behind a text", x.back(1), Check.NOT);
    }

    public static void main(String[] args) {
        doing();
        marrying();
        selling();
        oversleeping();
        sleeping();
        worldGoesOn();
        undoing();
        keeping();
        Check.finish("DayTest");
    }
}
