/** Promises 19 to 25. */
public final class PsalmTest {
    private static final Check check = new Check();

    public static void main(String[] args) {
        plays();
        playsLeastOfSeveral();
        right();
        rightOfTwins();
        rights();
        off();
        near();
        twice();
        both();
        check.finish();
    }

    private static void plays() {
        ChurchOrgan x = Check.told("tower 0 0 3;tower 8 0 2;note 0 0;note 1 1;note 20 0;");
        x.blow(0, 0, 0);
        x.noted(4);
        check.due("BAD", x.plays(81), Check.BAD);
        check.due("BAD", x.plays(-1), Check.BAD);
        check.due("at 6", x.plays(6), 12);
        int[] towers = {0, 1, 0};
        int[] beats = {0, 9, 20};
        int[] tones = {0, 1, 0};
        for (int i = 0; i < 3; i++) {
            check.due("tower " + i, x.blown(i, 0), towers[i]);
            check.due("beat " + i, x.blown(i, 1), beats[i]);
            check.due("tone " + i, x.blown(i, 2), tones[i]);
        }
        check.due("blows", x.count(3), 3);
        check.due("noted", x.count(4), 0);
        check.due("right there", x.right(6), 1012);
        x.noted(9);
        x.carry(0, 255);
        x.silence();
        x.blow(0, 1, 0);
        x.noted(1);
        ChurchOrgan y = Check.told("tower 0 0 3;note 0 0;note 1 2;");
        y.blow(0, 5, 1);
        y.noted(3);
        check.due("NONE", y.plays(0), Check.NONE);
        check.due("blows stay", y.count(3), 1);
        check.due("noted stays", y.count(4), 1);
        check.due("BAD ahead", y.plays(99), Check.BAD);
        ChurchOrgan z = Check.told("tower 0 0 3;");
        check.due("STATE", z.plays(0), Check.STATE);
        check.due("BAD ahead of STATE", z.plays(81), Check.BAD);
        ChurchOrgan late = Check.told("tower 0 0 1;note 30 0;");
        check.due("no offset", late.plays(3), 0);
        check.due("blown late enough", late.blown(0, 1), 24);
    }

    private static void playsLeastOfSeveral() {
        ChurchOrgan x = Check.told("tower 0 0 2;tower 3 3 1;tower 5 5 1;tower 3 5 1;note 0 0;");
        check.due("all as near", x.plays(40), 2);
        check.due("the least", x.blown(0, 0), 1);
        x.wind(0, 1);
        // going east is dearer now: the tower in the east is nearest by sound
        check.due("by sound, not by how far", x.plays(40), 2);
        check.due("the eastern one", x.blown(0, 0), 2);
    }

    private static void right() {
        ChurchOrgan x = Check.told("tower 0 0 3;tower 4 0 3;note 5 0;note 7 1;");
        check.due("nothing blown", x.right(0), Check.NONE);
        x.blow(0, 2, 1);
        check.due("too few", x.right(0), Check.NONE);
        x.blow(0, 0, 0);
        check.due("another order, sooner", x.right(0), 995);
        check.due("later elsewhere", x.right(4), 1003);
        x.blow(1, 9, 0);
        check.due("too many", x.right(0), Check.NONE);
        x.silence();
        x.blow(0, 0, 0);
        x.blow(0, 2, 0);
        check.due("another tone", x.right(0), Check.NONE);
        x.silence();
        x.blow(0, 0, 0);
        x.blow(0, 3, 1);
        check.due("another beat", x.right(0), Check.NONE);
        check.due("BAD", x.right(81), Check.BAD);
        ChurchOrgan z = new ChurchOrgan();
        check.due("STATE", z.right(0), Check.STATE);
        check.due("BAD ahead", z.right(81), Check.BAD);
    }

    private static void rightOfTwins() {
        ChurchOrgan x = Check.told("tower 0 0 3;note 5 0;note 5 0;note 5 1;");
        x.blow(0, 6, 1);
        x.blow(0, 6, 0);
        x.blow(0, 6, 1);
        check.due("one of the twins lacks", x.right(0), Check.NONE);
        x.silence();
        x.blow(0, 6, 1);
        x.blow(0, 6, 0);
        x.blow(0, 6, 0);
        check.due("both", x.right(0), 1001);
    }

    private static void rights() {
        ChurchOrgan x = Check.told("ground 3 9;tower 0 0 1;tower 2 0 2;note 0 0;note 0 1;");
        check.due("none", x.rights(0), 0);
        check.due("none", x.rights(1), Check.NONE);
        x.plays(1);
        // the middle column, and every cell at least two rows down
        check.due("many", x.rights(0), 2 + 7 * 3);
        check.due("first", x.rights(1), 1);
        check.due("BAD", x.rights(2), Check.BAD);
        check.due("BAD", x.rights(-1), Check.BAD);
        ChurchOrgan z = new ChurchOrgan();
        check.due("STATE", z.rights(1), Check.STATE);
        check.due("BAD ahead", z.rights(2), Check.BAD);
    }

    private static void off() {
        ChurchOrgan x = Check.told("tower 0 0 1;tower 8 0 2;note 0 0;note 3 1;");
        check.due("no blows", x.off(0), Check.STATE);
        x.blow(0, 0, 0);
        check.due("too few", x.off(0), Check.STATE);
        x.blow(1, 5, 1);
        check.due("at 0", x.off(0), 5 + 16 - 3);
        check.due("at 8", x.off(8), 16 - 2);
        check.due("BAD", x.off(81), Check.BAD);
        x.blow(0, 0, 0);
        check.due("too many", x.off(0), Check.STATE);
        x.silence();
        x.blow(1, 5, 1);
        x.blow(0, 0, 0);
        check.due("not by order", x.off(0), Check.STATE);
        ChurchOrgan z = new ChurchOrgan();
        check.due("none of both", z.off(0), Check.STATE);
        check.due("BAD ahead", z.off(-1), Check.BAD);
    }

    private static void near() {
        ChurchOrgan x = Check.told("ground 9 1;tower 0 0 1;tower 8 0 2;note 0 0;note 3 1;");
        x.blow(0, 0, 0);
        x.blow(1, 5, 1);
        // at x: 2 + 2 * (8 - x) less 2 * x
        check.due("0", x.near(0, 0), 0);
        check.due("2", x.near(2, 0), 2);
        check.due("6", x.near(6, 0), 4);
        check.due("99", x.near(99, 0), 9);
        check.due("least", x.near(0, 1), 2);
        check.due("first of the least", x.near(0, 2), 4);
        check.due("BAD", x.near(100, 0), Check.BAD);
        check.due("BAD", x.near(-1, 0), Check.BAD);
        check.due("BAD", x.near(0, 3), Check.BAD);
        check.due("BAD", x.near(0, -1), Check.BAD);
        x.silence();
        check.due("STATE", x.near(0, 0), Check.STATE);
        check.due("BAD ahead", x.near(100, 0), Check.BAD);
    }

    private static void twice() {
        ChurchOrgan x = Check.told("tower 0 0 1;tower 8 0 3;tower 0 8 2;tower 0 3 3;tower 4 4 255;note 0 0;note 4 1;");
        // to 8 less to 0: tower 0 16, tower 1 -16, tower 2 0, tower 3 10, tower 4 0
        check.due("many", x.twice(0, 8, 0), 3);
        check.due("least", x.twice(0, 8, 1), 1000 - 16);
        check.due("greatest", x.twice(0, 8, 2), 1000 + 10);
        check.due("tower of note 0", x.twice(0, 8, 10), 1);
        check.due("tower of note 1", x.twice(0, 8, 11), 1);
        check.due("no note 2", x.twice(0, 8, 12), Check.BAD);
        check.due("what 3", x.twice(0, 8, 3), Check.BAD);
        check.due("what 9", x.twice(0, 8, 9), Check.BAD);
        check.due("what -1", x.twice(0, 8, -1), Check.BAD);
        check.due("cell", x.twice(81, 8, 0), Check.BAD);
        check.due("cell", x.twice(0, -1, 0), Check.BAD);
        x.carry(1, 0);
        x.carry(3, 0);
        check.due("lag 0 alone", x.twice(0, 8, 0), 1);
        check.due("the least of two towers", x.twice(0, 8, 11), 2);
        check.due("for note 0 the other", x.twice(0, 8, 10), 4);
        x.carry(4, 0);
        check.due("none", x.twice(0, 8, 0), 0);
        check.due("none", x.twice(0, 8, 1), Check.NONE);
        check.due("none", x.twice(0, 8, 2), Check.NONE);
        check.due("none", x.twice(0, 8, 11), Check.NONE);
        ChurchOrgan z = Check.told("tower 0 0 1;");
        check.due("STATE", z.twice(0, 8, 0), Check.STATE);
        check.due("STATE", z.twice(0, 8, 2), Check.STATE);
        check.due("no note 0", z.twice(0, 8, 10), Check.BAD);
    }

    private static void both() {
        ChurchOrgan x = Check.told("tower 0 0 1;tower 8 0 3;tower 0 8 2;tower 4 4 255;note 3 0;note 4 1;");
        x.blow(1, 0, 0);
        x.noted(1);
        check.due("lag -100", x.both(0, 8, -100), Check.BAD);
        check.due("lag 100", x.both(0, 8, 100), Check.BAD);
        check.due("cell", x.both(0, 81, 0), Check.BAD);
        check.due("cell", x.both(-1, 0, 0), Check.BAD);
        check.due("no such lag", x.both(0, 8, 16), Check.NONE);
        check.due("99", x.both(0, 8, 99), Check.NONE);
        check.due("-99", x.both(0, 8, -99), Check.NONE);
        check.due("blows stay", x.count(3), 1);
        check.due("noted stays", x.count(4), 1);
        check.due("lag 0", x.both(0, 8, 0), 12);
        check.due("note 0 by tower", x.blown(0, 0), 3);
        check.due("note 1 by tower", x.blown(1, 0), 2);
        check.due("note 0 at", x.blown(0, 1), 7);
        check.due("note 1 at", x.blown(1, 1), 0);
        check.due("noted goes with its blows", x.count(4), 0);
        check.due("right at the first", x.right(0), 1012);
        check.due("right at the second", x.right(8), 1012);
        check.due("lag -16", x.both(0, 8, -16), 13);
        check.due("right at the first", x.right(0), 1013);
        check.due("right at the second", x.right(8), 1013 - 16);
        ChurchOrgan z = new ChurchOrgan();
        check.due("STATE", z.both(0, 0, 0), Check.STATE);
        check.due("BAD ahead", z.both(0, 0, 100), Check.BAD);
    }
}
