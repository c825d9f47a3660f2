/** What bounds the psalm: promises 19 to 25 and their part of "Terms" 2, sentence by sentence. */
public final class BoundsPsalmTest {
    private static final Bounds bounds = new Bounds();
    private static final Run NO_NOTES = Run.text("tower 0 0 255;tower 8 8 255;hill 4 4;").then("blow(0, 5, 0)", "noted(9)", "keep(1)");
    private static final Run NO_TOWERS = Run.text("hill 0 0;note 0 0;note 60 7;").then("keep(0)");
    /** The last NOTE has a TONE that no TOWER has. */
    private static final Run TONE_LACKS = Run.text("tower 0 0 127;tower 4 0 1;note 0 0;note 1 6;note 2 7;")
        .then("blow(0, 5, 0)", "blow(0, 6, 6)", "noted(9)");
    private static final Run LONGEST_WAY = Run.text("pace 9;wind 0 0;tower 0 0 1;note 0 0;");

    public static void main(String[] args) {
        playsRefused();
        playsSoonest();
        rightRefused();
        rightOffsets();
        rights();
        off();
        near();
        twiceNumbers();
        twiceNone();
        bothRefused();
        bothLags();
        bounds.finish(19, 25);
    }

    private static void playsRefused() {
        bounds.says(19, "BAD; STATE: there are no NOTES; NONE: no TOWER has a TONE.");
        bounds.cells(Runs.RICH, "plays(#)", 8, 7, 0);
        bounds.cells(Runs.TWELVE_NOTES, "plays(#)", 9, 9, 0);
        bounds.refused(NO_NOTES, "plays(0) = -2", "plays(80) = -2", "plays(81) = -1", "plays(-1) = -1");
        bounds.refused(Run.fresh(), "plays(0) = -2", "plays(81) = -1");
        bounds.refused(NO_TOWERS, "plays(0) = -4", "plays(81) = -1");
        bounds.refused(TONE_LACKS, "plays(0) = -4", "plays(80) = -4", "plays(81) = -1");
        bounds.goes(TONE_LACKS.then("carry(1, 128)"), "plays(0) = 6", "count(3) = 3", "blown(2, 0) = 1", "count(4) = 0");
    }

    private static void playsSoonest() {
        bounds.says(0, "OFFSET: the least (0 or more) by which no BLOW is ahead of BEAT 0.");
        Run four = Run.text("pace 1;tower 0 0 1;note 4 0;");
        bounds.goes(four, "plays(3) = 0", "blown(0, 1) = 1", "plays(4) = 0", "blown(0, 1) = 0", "plays(5) = 1", "blown(0, 1) = 0");
        bounds.goes(LONGEST_WAY, "plays(80) = 88", "blown(0, 1) = 0", "plays(0) = 0", "blown(0, 1) = 0");
        bounds.goes(Run.text("pace 9;wind 0 0;tower 0 0 1;tower 8 8 2;note 0 0;note 60 1;"), "plays(80) = 88", "blown(1, 1) = 148",
            "blown(0, 1) = 0", "right(80) = 1088");
        bounds.says(0, "the TOWER that has its TONE from which SOUND TAKES least, of several the least");
        bounds.goes(Run.text("tower 0 0 254;tower 8 0 1;tower 0 8 1;tower 8 8 1;note 0 0;"), "plays(40) = 8", "blown(0, 0) = 1",
            "plays(80) = 0", "blown(0, 0) = 3", "plays(72) = 0", "blown(0, 0) = 2");
        bounds.says(19, "BLOWS become those by which THE PSALM is RIGHT at a CELL the SOONEST (nothing is NOTED then): the OFFSET.");
        bounds.goes(Runs.TWELVE_NOTES.times(24, "blow(0, 0, 0)").times(24, "noted(0)"), "plays(80) = 16", "count(3) = 12",
            "count(4) = 0", "blown(11, 1) = 60", "blown(12, 0) = -1", "right(80) = 1016", "noted(400) = 1");
    }

    private static void rightRefused() {
        bounds.says(20, "BAD; STATE: there are no NOTES; NONE: it is not.");
        bounds.cells(Runs.RICH, "right(#)", 8, 7, 0);
        bounds.cells(NO_TOWERS, "right(#)", 9, 9, 0);
        bounds.refused(NO_NOTES, "right(0) = -2", "right(81) = -1", "right(-1) = -1");
        bounds.refused(NO_NOTES.then("silence()"), "right(0) = -2");
        bounds.refused(NO_TOWERS, "right(0) = -4", "right(81) = -1");
        bounds.says(0, "are just NOTES, all by one number of BEATS later or sooner: that OFFSET");
        Run two = Run.text("tower 0 0 7;note 5 0;note 7 1;");
        Run right = two.then("blow(0, 12, 1)", "blow(0, 10, 0)");
        bounds.asks(right, "right(0) = 1005");
        bounds.refused(two, "right(0) = -4");
        bounds.refused(two.then("blow(0, 10, 0)"), "right(0) = -4");
        bounds.refused(right.then("blow(0, 10, 0)"), "right(0) = -4");
        bounds.refused(two.then("blow(0, 10, 0)", "blow(0, 11, 1)"), "right(0) = -4");
        bounds.refused(two.then("blow(0, 10, 0)", "blow(0, 13, 1)"), "right(0) = -4");
        bounds.refused(two.then("blow(0, 10, 0)", "blow(0, 12, 0)"), "right(0) = -4");
        bounds.refused(two.then("blow(0, 10, 0)", "blow(0, 12, 2)"), "right(0) = -4");
        bounds.refused(two.then("blow(0, 10, 1)", "blow(0, 12, 0)"), "right(0) = -4");
    }

    private static void rightOffsets() {
        bounds.says(20, "Whether THE PSALM is RIGHT at a CELL: the OFFSET and 1000.");
        bounds.asks(Run.text("tower 0 0 1;note 60 0;").then("blow(0, 0, 0)"), "right(0) = 940", "right(1) = 942");
        bounds.asks(Run.text("tower 0 0 1;note 60 0;").then("blow(0, 60, 0)"), "right(0) = 1000");
        bounds.asks(LONGEST_WAY.then("blow(0, 200, 0)"), "right(80) = 1288", "right(0) = 1200");
        // an ECHO is no BLOW that COMES
        bounds.asks(Run.text("tower 0 0 1;hill 0 0;note 0 0;note 0 0;").then("blow(0, 0, 0)"), "right(0) = -4");
        bounds.asks(Run.text("tower 0 0 1;hill 8 8;note 0 0;").then("blow(0, 0, 0)"), "right(0) = 1000");
        // twelve of them in one BEAT, in another order
        bounds.asks(Run.text("tower 0 0 3;" + "note 9 0;".repeat(6) + "note 9 1;".repeat(6)).times(6, "blow(0, 9, 1)")
            .times(6, "blow(0, 9, 0)"), "right(0) = 1000", "right(80) = 1016", "rights(0) = 81");
        bounds.asks(Run.text("tower 0 0 3;" + "note 9 0;".repeat(6) + "note 9 1;".repeat(6)).times(7, "blow(0, 9, 1)")
            .times(5, "blow(0, 9, 0)"), "right(0) = -4", "rights(0) = 0");
    }

    private static void rights() {
        bounds.says(21, "CELLS at which THE PSALM is RIGHT: how many (what 0), the first one (1). BAD; STATE likewise; NONE (1): none.");
        bounds.range(Runs.RICH, "rights(#)", 0, 1);
        bounds.range(NO_TOWERS, "rights(#)", 0, 1);
        bounds.refused(NO_NOTES, "rights(0) = -2", "rights(1) = -2", "rights(2) = -1", "rights(-1) = -1");
        bounds.asks(NO_TOWERS, "rights(0) = 0", "rights(1) = -4", "rights(2) = -1");
        bounds.asks(LONGEST_WAY.then("blow(0, 0, 0)"), "rights(0) = 81", "rights(1) = 0");
        bounds.asks(Run.text("ground 1 1;tower 0 0 1;note 0 0;").then("blow(0, 0, 0)"), "rights(0) = 1", "rights(1) = 0");
        // at the last CELL of all, and of a smaller ground, alone
        bounds.asks(Run.text("tower 0 0 1;tower 8 8 2;note 0 0;note 0 1;").then("plays(80)"), "rights(0) = 1", "rights(1) = 80");
        bounds.asks(Run.text("ground 8 8;tower 0 0 1;tower 7 7 2;note 0 0;note 0 1;").then("plays(70)"), "rights(0) = 1",
            "rights(1) = 70");
        bounds.asks(Run.text("ground 2 1;tower 0 0 1;tower 1 0 2;note 0 0;note 0 1;").then("blow(0, 0, 0)", "blow(1, 9, 1)"),
            "rights(0) = 0", "rights(1) = -4");
    }

    private static void off() {
        bounds.says(22, "BAD; STATE: BLOWS are not as NOTES, there are none.");
        bounds.cells(Runs.RICH, "off(#)", 8, 7, 0);
        Run two = Run.text("tower 0 0 7;note 5 0;note 7 1;");
        Run one = two.then("blow(0, 10, 0)");
        Run fine = one.then("blow(0, 0, 1)");
        for (Run wrong : new Run[] {Run.fresh(), NO_NOTES, NO_NOTES.then("silence()"), NO_TOWERS, two, one, fine.then("blow(0, 0, 1)"),
            one.then("blow(0, 0, 0)"), one.then("blow(0, 0, 2)"), two.then("blow(0, 10, 1)", "blow(0, 0, 0)"),
            two.then("blow(0, 10, 2)", "blow(0, 0, 1)")}) {
            bounds.refused(wrong, "off(0) = -2", "off(81) = -1", "off(-1) = -1");
            bounds.refused(wrong, "near(0, 0) = -2", "near(99, 1) = -2", "near(5, 2) = -2", "near(100, 0) = -1", "near(0, 3) = -1");
        }
        bounds.says(0, "(there are as many BLOWS as NOTES, the i-th of each with one TONE)");
        bounds.asks(fine, "off(0) = 12", "off(80) = 12");
        bounds.asks(Runs.TWELVE_NOTES.then("plays(0)"), "off(0) = 0", "off(80) = 0");
        bounds.asks(Run.text("pace 9;wind 0 0;tower 0 0 1;tower 8 8 1;note 0 0;note 60 0;").then("blow(0, 200, 0)", "blow(1, 0, 0)"),
            "off(80) = 348", "off(0) = 188");
    }

    private static void near() {
        bounds.says(23, "CELLS at which it is OFF by no more than n (0 to 99)");
        for (int what = 0; what < 3; what++) {
            bounds.range(Runs.RICH, "near(#, " + what + ")", 0, 99);
        }
        bounds.range(Runs.RICH, "near(0, #)", 0, 2);
        bounds.range(Runs.RICH, "near(99, #)", 0, 2);
        Run two = Run.text("tower 0 0 3;note 0 0;note 0 1;").then("blow(0, 0, 0)");
        bounds.asks(two.then("blow(0, 99, 1)"), "near(99, 0) = 81", "near(98, 0) = 0", "near(0, 1) = 99", "near(0, 2) = 0");
        bounds.asks(two.then("blow(0, 100, 1)"), "near(99, 0) = 0", "near(99, 1) = 100", "near(99, 2) = 0");
        bounds.asks(two.then("blow(0, 0, 1)"), "near(0, 0) = 81", "near(0, 1) = 0", "near(0, 2) = 0");
        bounds.asks(two.then("blow(0, 1, 1)"), "near(0, 0) = 0", "near(1, 0) = 81");
        bounds.says(23, "the least OFF of all CELLS (1), the first CELL with that (2). BAD; STATE likewise.");
        Run last = Run.text("tower 0 0 1;tower 8 8 2;note 0 0;note 0 1;").then("plays(80)");
        // at (x, y) it is OFF by 2 times (16 less x and y)
        bounds.asks(last, "near(0, 0) = 1", "near(0, 1) = 0", "near(0, 2) = 80", "near(1, 0) = 1", "near(2, 0) = 3", "near(3, 0) = 3",
            "near(4, 0) = 6", "near(32, 0) = 81", "near(31, 0) = 80");
        bounds.asks(Run.text("ground 1 1;tower 0 0 1;note 0 0;").then("blow(0, 9, 0)"), "near(0, 0) = 1", "near(0, 2) = 0");
    }

    private static void twiceNumbers() {
        bounds.says(24, "for the least LAG 10 and i: the least TOWER for NOTE i");
        bounds.cells(Runs.RICH, "twice(#, 0, 0)", 8, 7, 0);
        bounds.cells(Runs.RICH, "twice(0, #, 0)", 8, 7, 0);
        bounds.cells(Runs.TWELVE_NOTES, "twice(#, 80, 1)", 9, 9, 0);
        bounds.range(Runs.TWELVE_NOTES, "twice(0, 80, #)", 0, 21);
        for (int what = 3; what < 10; what++) {
            bounds.refused(Runs.TWELVE_NOTES, "twice(0, 80, " + what + ") = -1");
        }
        bounds.asks(Runs.TWELVE_NOTES, "twice(0, 80, 2) = 1016", "twice(0, 80, 10) = 0", "twice(0, 80, 21) = 0");
        bounds.asks(Run.text("tower 0 0 2;tower 0 0 3;tower 0 0 1;note 0 0;note 0 1;"), "twice(0, 80, 10) = 1", "twice(0, 80, 11) = 0",
            "twice(0, 80, 12) = -1");
        bounds.says(24, "LAGS that can be (what 0: how many), the least (1; and 1000), the greatest (2; and 1000)");
        bounds.asks(LONGEST_WAY, "twice(0, 80, 0) = 1", "twice(0, 80, 1) = 1088", "twice(0, 80, 2) = 1088", "twice(80, 0, 1) = 912",
            "twice(80, 0, 2) = 912", "twice(40, 40, 1) = 1000");
        Run six = Run.text("ground 9 1;tower 0 0 1;tower 1 0 1;tower 2 0 1;tower 3 0 1;tower 4 0 1;tower 5 0 1;note 0 0;");
        bounds.asks(six, "twice(0, 5, 0) = 6", "twice(0, 5, 1) = 990", "twice(0, 5, 2) = 1010", "twice(0, 5, 10) = 5",
            "twice(5, 0, 10) = 0", "twice(0, 0, 0) = 1", "twice(0, 0, 10) = 0");
        // LAGS below 0 alone, above 0 alone
        bounds.asks(six.then("carry(0, 0)", "carry(1, 0)", "carry(2, 0)"), "twice(0, 5, 0) = 3", "twice(0, 5, 2) = 998",
            "twice(5, 0, 0) = 3", "twice(5, 0, 1) = 1002", "twice(5, 0, 2) = 1010");
    }

    private static void twiceNone() {
        bounds.says(24, "BAD; STATE: there are no NOTES; NONE (1, 2, 10 and i): none.");
        bounds.refused(NO_NOTES, "twice(0, 80, 0) = -2", "twice(0, 80, 1) = -2", "twice(0, 80, 2) = -2", "twice(0, 80, 3) = -1",
            "twice(0, 80, 9) = -1", "twice(0, 80, 10) = -1", "twice(81, 0, 0) = -1", "twice(0, 81, 0) = -1");
        bounds.asks(NO_TOWERS, "twice(0, 80, 0) = 0", "twice(0, 80, 1) = -4", "twice(0, 80, 2) = -4", "twice(0, 80, 10) = -4",
            "twice(0, 80, 11) = -4", "twice(0, 80, 12) = -1", "twice(0, 80, 9) = -1", "twice(0, 81, 1) = -1");
        bounds.asks(TONE_LACKS, "twice(0, 80, 0) = 0", "twice(0, 80, 1) = -4", "twice(0, 80, 12) = -4", "twice(0, 80, 13) = -1");
        bounds.says(0, "from which SOUND TAKES just LAG more to the second CELL than to the first one");
        // both TONES are there, but by two LAGS; a beat by wind makes them one
        Run apart = Run.text("pace 1;tower 3 0 1;tower 3 3 2;note 0 0;note 0 1;");
        bounds.asks(apart, "twice(0, 1, 0) = 0", "twice(0, 1, 1) = -4", "twice(0, 3, 0) = 0", "twice(27, 28, 0) = 0",
            "twice(0, 0, 0) = 1");
        bounds.asks(apart.then("move(1, 12)"), "twice(0, 1, 0) = 1", "twice(0, 1, 1) = 999", "twice(1, 0, 1) = 1001");
    }

    private static void bothRefused() {
        bounds.says(25, "BAD; STATE, NONE likewise.");
        bounds.cells(Runs.RICH, "both(#, 0, 0)", 8, 7, 0);
        bounds.cells(Runs.RICH, "both(0, #, 0)", 8, 7, 0);
        bounds.refused(NO_NOTES, "both(0, 0, 0) = -2", "both(0, 80, 16) = -2", "both(0, 0, 100) = -1", "both(0, 0, -100) = -1",
            "both(81, 0, 0) = -1", "both(0, 81, 0) = -1");
        bounds.refused(NO_TOWERS, "both(0, 0, 0) = -4", "both(0, 0, 100) = -1", "both(0, 81, 0) = -1");
        bounds.refused(TONE_LACKS, "both(0, 0, 0) = -4", "both(0, 0, 1) = -4");
        bounds.refused(Runs.RICH, "both(0, 0, 1) = -4", "both(0, 0, -1) = -4");
    }

    private static void bothLags() {
        bounds.says(25, "by a LAG (-99 to 99)");
        bounds.range(Runs.RICH, "both(0, 61, #)", -99, 99);
        bounds.refused(Runs.RICH, "both(0, 61, -99) = -4", "both(0, 61, 99) = -4");
        bounds.goes(LONGEST_WAY, "both(0, 80, 88) = 0", "blown(0, 1) = 0", "both(80, 0, -88) = 88", "blown(0, 1) = 0",
            "right(80) = 1088", "right(0) = 1000");
        bounds.refused(LONGEST_WAY.then("blow(0, 3, 0)", "noted(1)"), "both(0, 80, 87) = -4", "both(0, 80, 89) = -4",
            "both(80, 0, 88) = -4", "both(0, 80, 0) = -4");
        bounds.says(25, "RIGHT at the first CELL with the least OFFSET (0 or more) by which no BLOW is ahead of BEAT 0: that OFFSET.");
        Run four = Run.text("pace 1;tower 0 0 1;note 4 0;");
        bounds.goes(four, "both(3, 3, 0) = 0", "blown(0, 1) = 1", "both(4, 4, 0) = 0", "blown(0, 1) = 0", "both(5, 4, -1) = 1",
            "blown(0, 1) = 0", "both(4, 5, 1) = 0", "blown(0, 1) = 0");
        bounds.goes(Runs.TWELVE_NOTES.times(24, "blow(0, 0, 0)"), "both(80, 0, -16) = 16", "count(3) = 12", "blown(11, 1) = 60",
            "blown(11, 2) = 7", "blown(12, 0) = -1", "right(80) = 1016", "right(0) = 1000");
        bounds.says(25, "of each NOTE the least TOWER");
        bounds.goes(Run.text("tower 0 0 2;tower 0 0 3;tower 0 0 1;note 0 0;note 0 1;").then("blow(0, 9, 1)", "blow(0, 9, 1)",
            "blow(0, 9, 1)"), "both(0, 80, 16) = 0", "count(3) = 2", "blown(0, 0) = 1", "blown(1, 0) = 0");
        bounds.says(0, "NOTED: when something was heard, by BLOWS (as many as there are");
        bounds.goes(LONGEST_WAY.times(24, "blow(0, 0, 0)").times(24, "noted(0)"), "both(0, 0, 0) = 0", "count(3) = 1", "count(4) = 0");
    }
}
