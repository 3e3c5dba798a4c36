/** Towns that tests begin with; each is made in few enough calls to be looked at within its 512. */
final class Towns {
    private Towns() {
    }

    /** Three of PEOPLE, two WORKS, two GOODS, THE WORLD 1, CENTURY 1; something of everything, nothing full. */
    static CenturyTown busy() {
        CenturyTown x = Check.told("smith;reeve;mason;likes 0 1;likes 1 0;work 0 20 2 9;work 1 30 1 5;"
            + "grow 5 3;wither 9 2;world 0 1 5;world 1 0 5");
        x.does(0, 0);
        x.oversleep(2, 1);
        x.sleep(2);
        x.keep(0);
        x.does(1, 1);
        x.marry(0, 1);
        x.sell(1);
        x.wording(5);
        x.wording(40);
        x.ballot(12);
        x.ballot(210);
        x.sign(1, 1, 0);
        Check.write(x, "length 7");
        return x;
    }

    /** As many PEOPLE, WORKS, GOODS, deeds to undo and kept towns as there can be. */
    static CenturyTown crowded() {
        CenturyTown x = Check.told(Check.FIVE + ";world 0 1 9",
            "work 0 9 9 9;work 1 9 9 9;work 2 9 1 9;work 0 9 9 8;work 1 9 9 8;work 2 9 9 8",
            "grow 9 9;wither 9 9;grow 9 1;wither 9 1;grow 9 0");
        x.sell(4);
        x.does(0, 0);
        x.does(1, 1);
        x.does(2, 2);
        x.keep(0);
        x.oversleep(4, 1);
        x.sleep(1);
        x.sell(0);
        x.keep(1);
        x.does(3, 3);
        x.oversleep(0, 1);
        Check.write(x, "town");
        return x;
    }

    /** As many SIGNS, WORDINGS and BALLOTS as there can be. */
    static CenturyTown talkative() {
        CenturyTown x = Check.told("smith;mason;scribe;world 0 1 5;world 1 2 5");
        for (int t = 0; t < 6; t++) x.sign(3, t, 0);
        for (int bits = 0; bits < 6; bits++) x.wording(bits * 9);
        for (int i = 0; i < 3; i++) {
            x.ballot(12);
            x.ballot(120);
            x.ballot(201);
        }
        x.sleep(0);
        Check.write(x, "still");
        return x;
    }

    /** THE TEXT has 160 letters, and no FAULT. */
    static CenturyTown lettered() {
        CenturyTown x = Check.told("smith;reeve;work 0 9 2 9");
        x.does(0, 0);
        x.keep(1);
        Check.write(x, "length 7" + " ".repeat(152));
        return x;
    }
}
