/** Promises 30 to 34. */
public final class WatchTest {
    private static final Check check = new Check();

    public static void main(String[] args) {
        notedAndForget();
        watch();
        watchEdges();
        lost();
        fits();
        check.finish();
    }

    private static ChurchOrgan four() {
        ChurchOrgan x = Check.told("ground 9 1;tower 0 0 1;tower 8 0 1;");
        x.blow(0, 10, 0);
        x.blow(1, 12, 0);
        x.blow(0, 14, 0);
        x.blow(1, 16, 0);
        return x;
    }

    private static void notedAndForget() {
        ChurchOrgan x = four();
        check.due("nothing", x.forget(), 0);
        check.due("-1", x.noted(-1), Check.BAD);
        check.due("401", x.noted(401), Check.BAD);
        check.due("0", x.noted(0), 1);
        check.due("400", x.noted(400), 2);
        check.due("3", x.noted(3), 3);
        check.due("4", x.noted(4), 4);
        check.due("more than blows", x.noted(5), Check.STATE);
        check.due("BAD ahead", x.noted(401), Check.BAD);
        check.due("forget", x.forget(), 4);
        check.due("blows stay", x.count(3), 4);
        check.due("noted", x.count(4), 0);
        check.due("again", x.noted(1), 1);
        ChurchOrgan y = new ChurchOrgan();
        check.due("no blows", y.noted(0), Check.STATE);
    }

    private static void note(ChurchOrgan x, int... beats) {
        x.forget();
        for (int beat : beats) {
            x.noted(beat);
        }
    }

    private static void watch() {
        ChurchOrgan x = four();
        check.due("STATE", x.watch(0, 0), Check.STATE);
        // at cell 3: 16, 22, 20, 26
        note(x, 16, 22, 20, 26);
        check.due("all is right", x.watch(3, 0), 0);
        check.due("none", x.watch(3, 1), Check.NONE);
        check.due("none", x.watch(3, 2), Check.NONE);
        note(x, 16, 27, 20, 31);
        check.due("tower 1", x.watch(3, 0), 1);
        check.due("tower 1", x.watch(3, 1), 1);
        check.due("by 5", x.watch(3, 2), 105);
        note(x, 12, 22, 16, 26);
        check.due("tower 0", x.watch(3, 1), 0);
        check.due("sooner by 4", x.watch(3, 2), 96);
        note(x, 12, 22, 17, 26);
        check.due("not by one number", x.watch(3, 0), 0);
        note(x, 12, 22, 20, 26);
        check.due("one right, one wrong", x.watch(3, 0), 0);
        note(x, 17, 23, 21, 27);
        check.due("both wrong", x.watch(3, 0), 0);
        check.due("cell", x.watch(9, 0), Check.BAD);
        check.due("cell", x.watch(-1, 0), Check.BAD);
        check.due("what", x.watch(0, 3), Check.BAD);
        check.due("what", x.watch(0, -1), Check.BAD);
        x.forget();
        check.due("BAD ahead", x.watch(0, 3), Check.BAD);
    }

    private static void watchEdges() {
        ChurchOrgan x = four();
        note(x, 36);
        check.due("20", x.watch(3, 2), 120);
        note(x, 37);
        check.due("21", x.watch(3, 0), 0);
        note(x, 0);
        check.due("-16", x.watch(3, 2), 84);
        check.due("tower 1 has none noted", x.watch(3, 0), 1);
        x.silence();
        x.blow(1, 30, 0);
        note(x, 20);
        check.due("-20", x.watch(3, 1), 1);
        check.due("-20", x.watch(3, 2), 80);
        note(x, 19);
        check.due("-21", x.watch(3, 1), Check.NONE);
    }

    private static void lost() {
        ChurchOrgan x = four();
        check.due("STATE", x.lost(0), Check.STATE);
        note(x, 300);
        check.due("one: anywhere", x.lost(0), 9);
        check.due("one: anywhere", x.lost(1), 0);
        // at cell 3: 16, 22, 20, 26, all 40 later
        note(x, 56, 62, 60, 66);
        check.due("just there", x.lost(0), 1);
        check.due("just there", x.lost(1), 3);
        // all sooner
        note(x, 0, 6, 4, 10);
        check.due("just there", x.lost(1), 3);
        note(x, 56, 62, 60, 67);
        check.due("nowhere", x.lost(0), 0);
        check.due("nowhere", x.lost(1), Check.NONE);
        check.due("BAD", x.lost(2), Check.BAD);
        check.due("BAD", x.lost(-1), Check.BAD);
        x.forget();
        check.due("BAD ahead", x.lost(2), Check.BAD);
    }

    private static void fits() {
        ChurchOrgan x = four();
        check.due("STATE", x.fits(3), Check.STATE);
        note(x, 16, 22, 21);
        check.due("two", x.fits(3), 2);
        check.due("elsewhere", x.fits(2), 0);
        note(x, 17, 23, 21, 26);
        check.due("the last alone", x.fits(3), 1);
        check.due("cell", x.fits(9), Check.BAD);
        x.forget();
        check.due("BAD ahead", x.fits(9), Check.BAD);
    }
}
