/** Promises 26 to 29. */
public final class TowersTest {
    private static final Check check = new Check();

    public static void main(String[] args) {
        fewest();
        pipes();
        men();
        menMustChange();
        runs();
        check.finish();
    }

    private static void fewest() {
        ChurchOrgan x = Check.told("tower 0 0 7;tower 0 0 9;tower 0 0 6;tower 0 0 56;tower 0 0 7;note 0 0;note 1 1;note 2 2;note 3 3;");
        check.due("two", x.fewest(0), 2);
        check.due("the least bits", x.fewest(1), 3);
        x.carry(0, 0);
        check.due("two", x.fewest(0), 2);
        check.due("1 and 2", x.fewest(1), 6);
        x.carry(1, 1);
        check.due("3 and 4", x.fewest(1), 24);
        x.carry(4, 1);
        check.due("three", x.fewest(0), 3);
        check.due("1, 2, 3", x.fewest(1), 14);
        x.carry(2, 2);
        check.due("tone 2 lacks", x.fewest(0), Check.NONE);
        check.due("tone 2 lacks", x.fewest(1), Check.NONE);
        check.due("BAD", x.fewest(2), Check.BAD);
        check.due("BAD", x.fewest(-1), Check.BAD);
        ChurchOrgan y = Check.told("tower 0 0 7;");
        check.due("no notes", y.fewest(0), 0);
        check.due("no notes", y.fewest(1), 0);
        ChurchOrgan z = Check.told("note 0 0;");
        check.due("no towers", z.fewest(0), Check.NONE);
    }

    private static void pipes() {
        ChurchOrgan x = Check.told("tower 0 0 1;tower 0 0 6;tower 0 0 48;tower 0 0 3;note 0 0;note 1 1;note 2 2;note 3 3;note 4 4;");
        check.due("one", x.pipes(0), 3);
        check.due("which", x.pipes(1), 1);
        check.due("two", x.pipes(2), 2);
        check.due("which", x.pipes(3), 3);
        x.carry(2, 24);
        check.due("two", x.pipes(2), 1);
        check.due("which", x.pipes(3), 6);
        check.due("BAD", x.pipes(4), Check.BAD);
        check.due("BAD", x.pipes(-1), Check.BAD);
        ChurchOrgan y = Check.told("tower 0 0 0;note 0 0;note 0 0;");
        check.due("one", y.pipes(0), 1);
        check.due("which", y.pipes(1), 0);
        check.due("not two", y.pipes(2), Check.NONE);
        check.due("not two", y.pipes(3), Check.NONE);
        ChurchOrgan z = Check.told("tower 0 0 0;tower 0 0 0;");
        check.due("nothing needed", z.pipes(0), 0);
        check.due("which", z.pipes(1), 0);
        check.due("nothing needed", z.pipes(2), 0);
        check.due("which", z.pipes(3), 3);
        ChurchOrgan none = new ChurchOrgan();
        check.due("no towers", none.pipes(0), Check.NONE);
        check.due("no towers", none.pipes(1), Check.NONE);
        check.due("BAD ahead", none.pipes(4), Check.BAD);
    }

    private static void men() {
        ChurchOrgan x = Check.told("run 2;tower 0 0 1;tower 0 0 1;tower 3 0 1;");
        check.due("nobody", x.men(), 0);
        x.blow(0, 5, 0);
        check.due("one", x.men(), 1);
        x.blow(1, 5, 0);
        check.due("at once", x.men(), 2);
        x.blow(1, 4, 0);
        check.due("one ahead", x.men(), 2);
        x.blow(2, 10, 0);
        check.due("too far from those at 5", x.men(), 3);
        x.blow(2, 9, 0);
        check.due("9 and 10 are one man's", x.men(), 3);
        x.move(2, 2);
        check.due("nearer", x.men(), 2);
        ChurchOrgan y = Check.told("tower 0 0 1;");
        for (int i = 0; i < 24; i++) {
            y.blow(0, 7, 0);
        }
        check.due("24 at once", y.men(), 24);
    }

    private static void menMustChange() {
        // whoever takes the nearest blow first leaves one that none can reach: the pairs must be changed
        ChurchOrgan x = Check.told("run 1;tower 4 0 1;tower 8 0 1;tower 0 0 1;");
        x.blow(0, 0, 0);
        x.blow(1, 0, 0);
        x.blow(0, 4, 0);
        x.blow(2, 4, 0);
        check.due("two men", x.men(), 2);
        ChurchOrgan y = Check.told("run 1;tower 4 0 1;tower 8 0 1;tower 0 0 1;");
        y.blow(1, 0, 0);
        y.blow(0, 0, 0);
        y.blow(2, 4, 0);
        y.blow(0, 4, 0);
        check.due("two men by another order", y.men(), 2);
    }

    private static void runs() {
        ChurchOrgan x = Check.told("run 2;tower 0 0 1;tower 0 0 1;tower 3 1 1;");
        x.blow(0, 5, 0);
        x.blow(0, 6, 0);
        x.blow(1, 6, 0);
        x.blow(1, 5, 0);
        x.blow(2, 11, 0);
        x.blow(2, 10, 0);
        check.due("one tower", x.runs(0, 1), 1);
        check.due("back in time", x.runs(1, 0), 0);
        check.due("one cell", x.runs(0, 2), 1);
        check.due("one cell, one beat", x.runs(0, 3), 0);
        check.due("just far enough", x.runs(0, 4), 1);
        check.due("too far", x.runs(0, 5), 0);
        check.due("alike", x.runs(0, 0), Check.BAD);
        check.due("BAD", x.runs(0, 6), Check.BAD);
        check.due("BAD", x.runs(6, 0), Check.BAD);
        check.due("BAD", x.runs(-1, 0), Check.BAD);
        check.due("BAD", x.runs(0, -1), Check.BAD);
    }
}
