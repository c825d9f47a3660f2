/** What bounds TOWERS, PIPES and MEN: promises 26 to 29 and their part of "Terms" 2, sentence by sentence. */
public final class BoundsTowersTest {
    private static final Bounds bounds = new Bounds();
    private static final String ALL_TONES = "note 0 0;note 0 1;note 0 2;note 0 3;note 0 4;note 0 5;note 0 6;note 0 7;";

    public static void main(String[] args) {
        fewest();
        pipes();
        pipesNone();
        men();
        menWhoRun();
        runs();
        runsJustSo();
        bounds.finish(26, 29);
    }

    private static void fewest() {
        bounds.says(26, "BAD; NONE: all together have not.");
        bounds.range(Runs.RICH, "fewest(#)", 0, 1);
        bounds.range(Run.fresh(), "fewest(#)", 0, 1);
        Run lacks = Run.text("tower 0 0 1;tower 0 0 2;note 0 0;note 0 1;note 0 7;").then("blow(0, 0, 0)");
        bounds.refused(lacks, "fewest(0) = -4", "fewest(1) = -4", "fewest(2) = -1", "fewest(-1) = -1");
        bounds.asks(lacks.then("carry(1, 130)"), "fewest(0) = 2", "fewest(1) = 3");
        bounds.refused(Run.text("note 0 0;"), "fewest(0) = -4", "fewest(1) = -4", "fewest(2) = -1");
        bounds.says(26, "The fewest TOWERS that have all TONES of THE PSALM: how many (what 0), these (1; bits, of several the least).");
        bounds.asks(Run.fresh(), "fewest(0) = 0", "fewest(1) = 0");
        bounds.asks(Runs.SIX_TOWERS, "fewest(0) = 0", "fewest(1) = 0");
        bounds.asks(Run.text("tower 0 0 1;tower 0 0 2;tower 0 0 4;tower 0 0 8;tower 0 0 16;tower 0 0 224;" + ALL_TONES),
            "fewest(0) = 6", "fewest(1) = 63");
        bounds.asks(Run.text("tower 0 0 127;tower 0 0 254;tower 0 0 128;tower 0 0 1;tower 0 0 0;tower 0 0 255;" + ALL_TONES),
            "fewest(0) = 1", "fewest(1) = 32");
        bounds.asks(Run.text("tower 0 0 127;tower 0 0 254;tower 0 0 128;tower 0 0 1;tower 0 0 0;tower 0 0 129;" + ALL_TONES),
            "fewest(0) = 2", "fewest(1) = 3");
        // fewer TOWERS go ahead of lesser bits
        bounds.asks(Run.text("tower 0 0 1;tower 0 0 2;tower 0 0 3;note 0 0;note 0 1;"), "fewest(0) = 1", "fewest(1) = 4");
    }

    private static void pipes() {
        bounds.says(27, "which TOWER, of several the least (1); to two TOWERS (together) likewise (2), which (3; bits, the least)");
        bounds.range(Runs.RICH, "pipes(#)", 0, 3);
        bounds.asks(Run.text("tower 0 0 0;tower 0 0 0;" + ALL_TONES), "pipes(0) = 8", "pipes(1) = 0", "pipes(2) = 8", "pipes(3) = 3");
        bounds.asks(Runs.SIX_TOWERS, "pipes(0) = 0", "pipes(1) = 0", "pipes(2) = 0", "pipes(3) = 3");
        bounds.asks(Run.text("tower 0 0 1;tower 0 0 1;tower 0 0 1;tower 0 0 1;tower 0 0 7;tower 0 0 248;" + ALL_TONES), "pipes(0) = 3",
            "pipes(1) = 5", "pipes(2) = 0", "pipes(3) = 48");
        // TONES that no NOTE has do not count, two equal NOTES count once
        bounds.asks(Run.text("tower 0 0 254;tower 0 0 3;note 0 0;note 1 0;note 1 1;"), "pipes(0) = 0", "pipes(1) = 1", "pipes(2) = 0");
        bounds.asks(Run.text("tower 0 0 2;tower 0 0 2;note 0 0;note 1 0;note 1 1;"), "pipes(0) = 1", "pipes(1) = 0", "pipes(2) = 1",
            "pipes(3) = 3");
    }

    private static void pipesNone() {
        bounds.says(27, "BAD; NONE: not so many TOWERS.");
        bounds.refused(Run.fresh(), "pipes(0) = -4", "pipes(1) = -4", "pipes(2) = -4", "pipes(3) = -4", "pipes(4) = -1",
            "pipes(-1) = -1");
        bounds.refused(Run.text(ALL_TONES), "pipes(0) = -4", "pipes(3) = -4");
        Run one = Run.text("tower 0 0 0;note 0 0;");
        bounds.asks(one, "pipes(0) = 1", "pipes(1) = 0");
        bounds.refused(one, "pipes(2) = -4", "pipes(3) = -4", "pipes(4) = -1");
        bounds.asks(Run.text("tower 0 0 0;tower 8 8 1;note 0 0;"), "pipes(0) = 0", "pipes(1) = 1", "pipes(2) = 0", "pipes(3) = 3");
    }

    private static void men() {
        bounds.says(28, "The fewest MEN who can blow all BLOWS.");
        bounds.asks(Run.fresh(), "men() = 0");
        bounds.asks(Runs.SIX_TOWERS, "men() = 0");
        Run one = Run.text("run 9;tower 0 0 1;tower 8 8 1;");
        bounds.asks(one.then("blow(0, 200, 0)"), "men() = 1");
        bounds.asks(one.times(24, "blow(0, 200, 0)"), "men() = 24");
        bounds.asks(one.times(12, "blow(0, 200, 0)").times(12, "blow(1, 0, 0)"), "men() = 12");
        Run steps = one;
        for (int i = 0; i < 24; i++) {
            steps = steps.then("blow(0, " + (23 - i) + ", 0)");
        }
        bounds.asks(steps, "men() = 1");
        // asked again, behind other BLOWS
        bounds.goes(steps, "men() = 1", "men() = 1", "silence() = 24", "men() = 0", "blow(0, 5, 0) = 1", "blow(0, 5, 0) = 2", "men() = 2",
            "blow(0, 4, 0) = 3", "men() = 2", "blow(1, 4, 0) = 4", "men() = 3", "blow(1, 76, 0) = 5", "men() = 3");
        bounds.says(0, "A MAN blows one BLOW in a BEAT");
        bounds.asks(one.then("blow(0, 5, 0)", "blow(0, 5, 0)"), "men() = 2");
        bounds.asks(one.then("blow(0, 5, 0)", "blow(0, 6, 0)"), "men() = 1");
    }

    private static void menWhoRun() {
        bounds.says(0, "from one TOWER to another one he runs run times HOW FAR BEATS at the least, one BEAT in any case");
        Run far = Run.text("run 9;tower 0 0 1;tower 8 8 1;").then("blow(0, 10, 0)");
        bounds.asks(far.then("blow(1, 82, 0)"), "men() = 1", "runs(0, 1) = 1", "runs(1, 0) = 0");
        bounds.asks(far.then("blow(1, 81, 0)"), "men() = 2", "runs(0, 1) = 0", "runs(1, 0) = 0");
        Run beside = Run.text("run 1;tower 0 0 1;tower 1 0 1;").then("blow(0, 10, 0)");
        bounds.asks(beside.then("blow(1, 11, 0)"), "men() = 1", "runs(0, 1) = 1");
        bounds.asks(beside.then("blow(1, 10, 0)"), "men() = 2", "runs(0, 1) = 0");
        bounds.asks(beside.then("blow(1, 9, 0)"), "men() = 1", "runs(0, 1) = 0", "runs(1, 0) = 1");
        // pace and wind are nothing to him
        bounds.asks(Run.text("run 1;pace 9;wind 0 0;tower 0 0 1;tower 4 4 1;").then("blow(0, 0, 0)", "blow(1, 4, 0)"), "men() = 1");
        bounds.says(0, "(at one TOWER, at two in one CELL: one)");
        Run together = Run.text("run 9;tower 3 3 1;tower 3 3 1;").then("blow(0, 10, 0)");
        bounds.asks(together.then("blow(1, 11, 0)"), "men() = 1", "runs(0, 1) = 1");
        bounds.asks(together.then("blow(1, 10, 0)"), "men() = 2", "runs(0, 1) = 0");
        bounds.asks(together.then("blow(0, 11, 0)"), "men() = 1", "runs(0, 1) = 1");
        bounds.asks(together.then("blow(0, 10, 0)"), "men() = 2", "runs(0, 1) = 0");
    }

    private static void runs() {
        bounds.says(29, "Whether one MAN can blow BLOW i, then BLOW j (1, 0). BAD: also alike.");
        bounds.range(Runs.FULL_OF_BLOWS, "runs(#, 5)", 0, 23);
        bounds.range(Runs.FULL_OF_BLOWS, "runs(5, #)", 0, 23);
        for (int i = 0; i < 24; i++) {
            bounds.refused(Runs.FULL_OF_BLOWS, "runs(" + i + ", " + i + ") = -1");
        }
        bounds.range(Runs.RICH, "runs(#, 1)", 0, 2);
        bounds.range(Runs.RICH, "runs(1, #)", 0, 2);
        bounds.refused(Run.fresh(), "runs(0, 1) = -1", "runs(0, 0) = -1");
        bounds.refused(Run.text("tower 0 0 1;").then("blow(0, 0, 0)"), "runs(0, 0) = -1", "runs(0, 1) = -1", "runs(1, 0) = -1",
            "runs(1, 1) = -1", "runs(-1, -1) = -1");
    }

    private static void runsJustSo() {
        bounds.says(0, "run times HOW FAR BEATS at the least");
        // 2 times 3 BEATS, by the greater difference
        Run run = Run.text("run 2;tower 0 0 1;tower 3 1 1;tower 1 3 1;").then("blow(0, 100, 0)", "blow(1, 106, 0)", "blow(1, 105, 0)",
            "blow(2, 94, 0)", "blow(2, 95, 0)");
        bounds.asks(run, "runs(0, 1) = 1", "runs(0, 2) = 0", "runs(3, 0) = 1", "runs(4, 0) = 0", "runs(1, 0) = 0", "runs(0, 3) = 0");
    }
}
