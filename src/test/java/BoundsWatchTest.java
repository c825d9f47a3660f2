/** What bounds what is NOTED: promises 30 to 34 and their part of "Terms" 2, sentence by sentence. */
public final class BoundsWatchTest {
    private static final Bounds bounds = new Bounds();
    private static final Run UNHEARD = Run.text("tower 0 0 1;tower 8 8 1;note 0 0;").then("blow(0, 100, 0)", "keep(0)");
    /** BLOW 0 COMES to CELL 0 in BEAT 100, BLOW 1 in 116, BLOW 2 in 120. */
    private static final Run THREE = Run.text("tower 0 0 1;tower 8 8 1;tower 4 4 1;")
        .then("blow(0, 100, 0)", "blow(1, 100, 0)", "blow(0, 120, 0)");

    public static void main(String[] args) {
        noted();
        notedState();
        forget();
        watchRefused();
        watchBy();
        watchTowers();
        lostRefused();
        lost();
        fits();
        bounds.finish(30, 34);
    }

    private static Run heard(Run run, int... beats) {
        Run longer = run;
        for (int beat : beats) {
            longer = longer.then("noted(" + beat + ")");
        }
        return longer;
    }

    private static void noted() {
        bounds.says(30, "BAD (0 to 400)");
        bounds.range(UNHEARD, "noted(#)", 0, 400);
        bounds.range(Runs.RICH, "noted(#)", 0, 400);
        bounds.range(Run.fresh(), "noted(#)", 0, 400);
        bounds.says(30, "NOTED: the next one (its BLOW's): how many are.");
        bounds.goes(THREE, "noted(0) = 1", "noted(400) = 2", "noted(0) = 3", "noted(0) = -2", "count(4) = 3");
        bounds.goes(THREE, "noted(100) = 1", "fits(0) = 1", "noted(116) = 2", "fits(0) = 2", "noted(120) = 3", "fits(0) = 3");
        bounds.says(0, "the i-th is BLOW i; 0 to 400");
        bounds.goes(heard(THREE, 116, 100), "fits(0) = 0");
        bounds.goes(Runs.FULL_OF_BLOWS.times(23, "noted(400)"), "noted(400) = 24", "noted(400) = -2", "count(4) = 24");
    }

    private static void notedState() {
        bounds.says(30, "STATE: there are as many as BLOWS.");
        bounds.refused(Run.fresh(), "noted(0) = -2", "noted(400) = -2", "noted(401) = -1", "noted(-1) = -1");
        Run all = heard(UNHEARD, 100);
        bounds.refused(all, "noted(0) = -2", "noted(400) = -2", "noted(401) = -1", "noted(-1) = -1");
        bounds.refused(Runs.FULL_OF_BLOWS.times(24, "noted(5)"), "noted(0) = -2");
        bounds.goes(all, "noted(3) = -2", "blow(0, 0, 0) = 2", "noted(3) = 2", "noted(3) = -2", "forget() = 2", "noted(3) = 1");
    }

    private static void forget() {
        bounds.says(31, "Nothing is NOTED: how many were.");
        bounds.asks(Run.fresh(), "forget() = 0");
        bounds.asks(UNHEARD, "forget() = 0");
        bounds.goes(Runs.FULL_OF_BLOWS.times(24, "noted(5)"), "forget() = 24", "forget() = 0", "count(3) = 24", "count(4) = 0",
            "lost(0) = -2");
        bounds.goes(Runs.RICH, "forget() = 2", "count(3) = 3", "count(5) = 2");
    }

    private static void watchRefused() {
        bounds.says(32, "BAD; STATE: nothing is NOTED; NONE (1, 2): there is none.");
        bounds.cells(Runs.RICH, "watch(#, 0)", 8, 7, 0);
        bounds.cells(heard(THREE, 100), "watch(#, 1)", 9, 9, 0);
        bounds.range(Runs.RICH, "watch(0, #)", 0, 2);
        bounds.refused(UNHEARD, "watch(0, 0) = -2", "watch(80, 1) = -2", "watch(0, 2) = -2", "watch(81, 0) = -1", "watch(-1, 0) = -1",
            "watch(0, 3) = -1", "watch(0, -1) = -1");
        bounds.refused(Run.fresh(), "watch(0, 0) = -2", "watch(0, 3) = -1");
        Run none = heard(THREE, 100, 116, 120);
        bounds.asks(none, "watch(0, 0) = 0", "watch(0, 1) = -4", "watch(0, 2) = -4", "watch(0, 3) = -1", "watch(81, 1) = -1");
    }

    private static void watchBy() {
        bounds.says(32, "ways in which one WATCH is wrong by -20 to 20 (not 0; of a TOWER that has a BLOW NOTED)");
        bounds.asks(heard(THREE, 120), "watch(0, 0) = 1", "watch(0, 1) = 0", "watch(0, 2) = 120");
        bounds.asks(heard(THREE, 121), "watch(0, 0) = 0", "watch(0, 1) = -4", "watch(0, 2) = -4");
        bounds.asks(heard(THREE, 80), "watch(0, 0) = 1", "watch(0, 1) = 0", "watch(0, 2) = 80");
        bounds.asks(heard(THREE, 79), "watch(0, 0) = 0", "watch(0, 1) = -4", "watch(0, 2) = -4");
        bounds.asks(heard(THREE, 101), "watch(0, 0) = 1", "watch(0, 2) = 101");
        bounds.asks(heard(THREE, 99), "watch(0, 0) = 1", "watch(0, 2) = 99");
        bounds.asks(heard(THREE, 100), "watch(0, 0) = 0", "watch(0, 1) = -4", "watch(0, 2) = -4");
        // of the second TOWER, whose first BLOW is BLOW 1
        bounds.asks(heard(THREE, 100, 136), "watch(0, 0) = 1", "watch(0, 1) = 1", "watch(0, 2) = 120");
        bounds.asks(heard(THREE, 100, 137), "watch(0, 0) = 0", "watch(0, 1) = -4");
        bounds.asks(heard(THREE, 100, 96), "watch(0, 0) = 1", "watch(0, 1) = 1", "watch(0, 2) = 80");
        bounds.asks(heard(THREE, 100, 95), "watch(0, 0) = 0", "watch(0, 2) = -4");
        // the ends of what can be NOTED
        bounds.asks(heard(Run.text("tower 0 0 1;").then("blow(0, 20, 0)"), 0), "watch(0, 2) = 80", "watch(1, 0) = 0");
        Run latest = Run.text("pace 9;wind 0 0;tower 0 0 1;").then("blow(0, 200, 0)");
        bounds.asks(heard(latest, 400), "watch(80, 0) = 0", "watch(0, 0) = 0");
        bounds.asks(heard(latest, 308), "watch(80, 2) = 120");
        bounds.asks(heard(latest, 309), "watch(80, 2) = -4");
    }

    private static void watchTowers() {
        bounds.says(32, "so that all COMES just so");
        bounds.asks(heard(THREE, 105, 116, 125), "watch(0, 0) = 1", "watch(0, 1) = 0", "watch(0, 2) = 105");
        bounds.asks(heard(THREE, 105, 116, 126), "watch(0, 0) = 0");
        bounds.asks(heard(THREE, 105, 116, 120), "watch(0, 0) = 0");
        bounds.asks(heard(THREE, 100, 116, 125), "watch(0, 0) = 0");
        bounds.asks(heard(THREE, 105, 121, 125), "watch(0, 0) = 0");
        bounds.asks(heard(THREE, 100, 121, 120), "watch(0, 0) = 1", "watch(0, 1) = 1");
        bounds.asks(heard(THREE, 100, 121, 121), "watch(0, 0) = 0", "watch(0, 1) = -4", "watch(0, 2) = -4");
        // only what is NOTED counts: BLOW 2 is not heard of yet
        bounds.asks(heard(THREE, 105, 116), "watch(0, 0) = 1", "watch(0, 1) = 0");
        // the last TOWER of six
        bounds.asks(heard(Runs.SIX_TOWERS.then("blow(5, 30, 0)"), 31), "watch(80, 0) = 1", "watch(80, 1) = 5", "watch(80, 2) = 101");
    }

    private static void lostRefused() {
        bounds.says(33, "BAD; STATE likewise; NONE (1): none.");
        bounds.range(Runs.RICH, "lost(#)", 0, 1);
        bounds.refused(UNHEARD, "lost(0) = -2", "lost(1) = -2", "lost(2) = -1", "lost(-1) = -1");
        bounds.refused(Run.fresh(), "lost(0) = -2", "lost(2) = -1");
        bounds.asks(heard(THREE, 100, 116, 121), "lost(0) = 0", "lost(1) = -4", "lost(2) = -1");
    }

    private static void lost() {
        bounds.says(33, "CELLS where all that is NOTED could have been heard, all by one number of BEATS later or sooner");
        bounds.asks(heard(UNHEARD, 0), "lost(0) = 81", "lost(1) = 0");
        bounds.asks(heard(UNHEARD, 400), "lost(0) = 81", "lost(1) = 0");
        bounds.asks(heard(Run.text("ground 1 1;tower 0 0 1;").then("blow(0, 0, 0)"), 400), "lost(0) = 1", "lost(1) = 0");
        // just at CELL 0, 100 sooner, just so, 200 later; one BEAT more or less: nowhere
        bounds.asks(heard(THREE, 0, 16, 20), "lost(0) = 1", "lost(1) = 0");
        bounds.asks(heard(THREE, 100, 116, 120), "lost(0) = 1", "lost(1) = 0");
        bounds.asks(heard(THREE, 300, 316, 320), "lost(0) = 1", "lost(1) = 0");
        bounds.asks(heard(THREE, 300, 317, 320), "lost(0) = 0", "lost(1) = -4");
        bounds.asks(heard(THREE, 300, 315, 320), "lost(0) = 0", "lost(1) = -4");
        // just at the last CELL
        bounds.asks(heard(THREE, 116, 100, 136), "lost(0) = 1", "lost(1) = 80");
        bounds.asks(heard(Run.text("ground 7 7;tower 0 0 1;tower 6 6 1;").then("blow(0, 0, 0)", "blow(1, 0, 0)"), 212, 200),
            "lost(0) = 1", "lost(1) = 60");
    }

    private static void fits() {
        bounds.says(34, "How many of NOTED are just as they COME to a CELL. BAD; STATE likewise.");
        bounds.cells(Runs.RICH, "fits(#)", 8, 7, 0);
        bounds.cells(heard(THREE, 100), "fits(#)", 9, 9, 0);
        bounds.refused(UNHEARD, "fits(0) = -2", "fits(80) = -2", "fits(81) = -1", "fits(-1) = -1");
        bounds.refused(Run.fresh(), "fits(0) = -2", "fits(81) = -1");
        bounds.asks(heard(THREE, 101, 117, 121), "fits(0) = 0");
        bounds.asks(heard(THREE, 99, 115, 119), "fits(0) = 0");
        bounds.asks(heard(THREE, 100, 117, 120), "fits(0) = 2");
        bounds.asks(heard(THREE, 100, 116, 120), "fits(0) = 3", "fits(80) = 0");
        bounds.asks(Runs.FULL_OF_BLOWS.times(24, "noted(7)"), "fits(0) = 23");
    }
}
