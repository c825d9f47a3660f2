/** Runs from which several tests of bounds begin. */
final class Runs {
    /** Nothing is as at first, both IMAGES are unlike what stands, SHEETS of all lanes and one with nothing. */
    static final Run RICH = sheets(Run.text(
            "ground 8 7;pace 3;run 2;wind 0 2;tower 1 1 7;tower 5 2 7;tower 2 5 192;hill 3 3;hill 0 6;note 2 0;note 4 1;note 4 2;"))
        .then("blow(2, 9, 7)", "noted(20)", "keep(1)")
        .then("move(1, 30)", "carry(2, 255)", "wind(2, 1)", "silence()", "blow(0, 30, 2)", "blow(1, 3, 0)", "noted(33)", "noted(4)",
            "keep(0)")
        .then("move(0, 11)", "carry(0, 15)", "wind(0, 0)", "silence()", "plays(20)", "noted(13)", "noted(19)")
        .then("read(2, 0, 5, 1)")
        .laid("pace 0;").refused("land()")
        .laid("pace 4;run 5;tower 1 2 3;");

    static final Run SIX_TOWERS = Run.text(
        "tower 0 0 255;tower 1 0 255;tower 2 0 255;tower 3 0 255;tower 4 0 255;tower 8 8 255;");

    static final Run TWELVE_NOTES = Run.text("tower 0 0 255;" + "note 0 0;".repeat(11) + "note 60 7;");

    static final Run FULL_OF_BLOWS = Run.text("tower 0 0 129;tower 8 8 1;").times(23, "blow(0, 7, 0)").then("blow(1, 200, 0)");

    private Runs() {
    }

    static Run sheets(Run run) {
        return run.then("sheet(0, 2, 40)", "lay(0, 0, 1)", "lay(0, 1, 150)", "lay(0, 2, 2)", "lay(0, 38, 7)")
            .then("sheet(2, 0, 7)", "lay(2, 0, 2)", "lay(2, 1, 77)", "lay(2, 2, 7)", "lay(2, 4, 11)")
            .then("sheet(3, 1, 0)");
    }
}
