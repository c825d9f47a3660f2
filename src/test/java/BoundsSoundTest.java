/** What bounds sound and BLOWS: promises 13 to 18 and their part of "Terms" 2, sentence by sentence. */
public final class BoundsSoundTest {
    private static final Bounds bounds = new Bounds();
    private static final Run ONE_CELL = Run.text("ground 1 1;tower 0 0 1;hill 0 0;note 0 0;").then("blow(0, 0, 0)");

    public static void main(String[] args) {
        takes();
        against();
        byHill();
        blowNumbers();
        blowRefused();
        silence();
        blown();
        heard();
        span();
        bounds.finish(13, 18);
    }

    private static void takes() {
        bounds.says(13, "How long SOUND TAKES from a CELL to another one. BAD.");
        bounds.cells(Runs.RICH, "takes(#, 0)", 8, 7, 0);
        bounds.cells(Runs.RICH, "takes(0, #)", 8, 7, 0);
        bounds.cells(Run.fresh(), "takes(#, 80)", 9, 9, 0);
        bounds.cells(Run.fresh(), "takes(80, #)", 9, 9, 0);
        bounds.cells(ONE_CELL, "takes(#, 0)", 1, 1, 0);
        bounds.cells(ONE_CELL, "takes(0, #)", 1, 1, 0);
        bounds.refused(Runs.RICH, "takes(8, 8) = -1", "takes(-1, -1) = -1", "takes(62, 63) = -1");
        bounds.says(0, "HOW FAR two CELLS are: the greater of both differences.");
        bounds.asks(Run.text("pace 1;"), "takes(0, 0) = 0", "takes(80, 80) = 0", "takes(0, 80) = 8", "takes(80, 0) = 8",
            "takes(8, 72) = 8", "takes(72, 8) = 8", "takes(0, 8) = 8", "takes(0, 72) = 8", "takes(0, 1) = 1", "takes(0, 9) = 1",
            "takes(0, 10) = 1", "takes(8, 9) = 8", "takes(0, 47) = 5", "takes(0, 23) = 5");
        bounds.says(0, "TAKES pace times that");
        bounds.asks(Run.text("pace 9;"), "takes(0, 0) = 0", "takes(0, 80) = 72", "takes(80, 0) = 72", "takes(0, 1) = 9");
    }

    private static void against() {
        bounds.says(0, "(it goes east by d and the WIND is -1, or west by d and it is 1: d), and its way south likewise");
        Run quick = Run.text("pace 1;");
        // from the middle (4, 4) by 3 east or west, by 2 south or north: 3 far
        int[] ways = {40 + 3 + 18, 40 + 3 - 18, 40 - 3 + 18, 40 - 3 - 18};
        for (int east = 0; east < 3; east++) {
            for (int south = 0; south < 3; south++) {
                Run blows = quick.then("wind(" + east + ", " + south + ")");
                for (int to : ways) {
                    boolean againstEast = to % 9 > 4 ? east == 0 : east == 2;
                    boolean againstSouth = to / 9 > 4 ? south == 0 : south == 2;
                    int due = 3 + (againstEast ? 3 : 0) + (againstSouth ? 2 : 0);
                    bounds.goes(blows, "takes(40, " + to + ") = " + due);
                }
                bounds.goes(blows, "takes(40, 40) = 0");
            }
        }
        // the longest way there is
        bounds.goes(Run.text("pace 9;wind 0 0;"), "takes(0, 80) = 88", "takes(80, 0) = 72", "takes(8, 72) = 80", "takes(72, 8) = 80");
        bounds.goes(Run.text("pace 9;wind 2 2;"), "takes(80, 0) = 88", "takes(0, 80) = 72");
    }

    private static void byHill() {
        bounds.says(0, "By a HILL: what it TAKES there, and from there on.");
        Run far = Run.text("pace 9;wind 0 0;tower 0 0 1;hill 8 8;").then("blow(0, 200, 0)");
        bounds.goes(far, "heard(0, 200, true) = 1", "heard(0, 359, true) = 0", "heard(0, 360, true) = 1", "heard(0, 361, true) = 0",
            "heard(0, 360, false) = 0", "span(0, 0) = 200", "span(0, 1) = 360", "span(0, 2) = 2");
        bounds.says(0, "with ECHOES also by each HILL");
        // HILLS at the TOWER, at the CELL itself, and two in one CELL
        bounds.goes(Run.text("pace 1;tower 0 0 1;hill 0 0;hill 5 0;hill 5 0;").then("blow(0, 0, 0)"), "span(5, 0) = 5",
            "span(5, 1) = 5", "span(5, 2) = 4", "heard(5, 5, true) = 1", "heard(5, 4, true) = 0", "heard(5, 6, true) = 0",
            "span(0, 1) = 10", "heard(0, 10, true) = 1", "heard(0, 10, false) = 0");
    }

    private static void blowNumbers() {
        bounds.says(14, "A BLOW more: how many there are. BAD");
        bounds.range(Runs.SIX_TOWERS, "blow(#, 0, 0)", 0, 5);
        bounds.range(Runs.SIX_TOWERS, "blow(0, 0, #)", 0, 7);
        bounds.range(Runs.RICH, "blow(#, 0, 0)", 0, 2);
        bounds.refused(Run.fresh(), "blow(0, 0, 0) = -1");
        bounds.goes(Run.text("tower 0 0 129;"), "blow(0, 0, 0) = 1", "blow(0, 200, 7) = 2", "blow(0, 0, 0) = 3", "blown(1, 1) = 200",
            "blown(1, 2) = 7");
        bounds.says(0, "a BEAT (0 to 200)");
        bounds.range(Runs.SIX_TOWERS, "blow(5, #, 7)", 0, 200);
    }

    private static void blowRefused() {
        bounds.says(14, "STATE: the TOWER has no such PIPE");
        Run some = Run.text("tower 0 0 129;tower 0 0 0;tower 0 0 126;").then("blow(0, 3, 7)", "noted(5)");
        for (int tone = 0; tone < 8; tone++) {
            boolean edge = tone == 0 || tone == 7;
            if (edge) bounds.goes(some, "blow(0, 0, " + tone + ") = 2");
            else bounds.goes(some, "blow(2, 0, " + tone + ") = 2");
            bounds.refused(some, "blow(" + (edge ? 2 : 0) + ", 0, " + tone + ") = -2", "blow(1, 0, " + tone + ") = -2");
        }
        bounds.says(0, "BLOWS (24 at most)");
        bounds.goes(Run.text("tower 0 0 1;").times(22, "blow(0, 0, 0)"), "blow(0, 0, 0) = 23", "blow(0, 0, 0) = 24",
            "blow(0, 0, 0) = -3", "count(3) = 24");
        bounds.says(14, "FULL.");
        bounds.refused(Runs.FULL_OF_BLOWS, "blow(0, 0, 0) = -3", "blow(0, 200, 7) = -3", "blow(1, 5, 0) = -3");
        bounds.refused(Runs.FULL_OF_BLOWS.times(24, "noted(6)"), "blow(0, 0, 0) = -3");
        bounds.goes(Runs.FULL_OF_BLOWS, "silence() = 24", "blow(0, 0, 0) = 1");
        bounds.says(0, "the first that fits; what is refused changes nothing");
        bounds.refused(Runs.FULL_OF_BLOWS, "blow(0, 0, 1) = -2", "blow(1, 0, 7) = -2", "blow(2, 0, 0) = -1", "blow(0, 201, 0) = -1",
            "blow(0, 0, 8) = -1", "blow(0, -1, 1) = -1", "blow(1, 201, 7) = -1");
        bounds.refused(some, "blow(1, 201, 0) = -1", "blow(1, 0, 8) = -1", "blow(3, 0, 0) = -1");
    }

    private static void silence() {
        bounds.says(15, "No BLOWS, nothing NOTED: how many BLOWS there were.");
        bounds.asks(Run.fresh(), "silence() = 0");
        bounds.goes(Runs.FULL_OF_BLOWS.times(24, "noted(400)"), "count(4) = 24", "silence() = 24", "count(3) = 0", "count(4) = 0",
            "silence() = 0", "forget() = 0", "blown(0, 0) = -1");
        // what was blown is not heard any more, nor behind what is blown anew
        bounds.goes(Runs.FULL_OF_BLOWS.then("silence()"), "heard(0, 7, true) = 0", "heard(0, 7, false) = 0", "heard(80, 200, true) = 0",
            "span(0, 0) = -4", "men() = 0", "blow(0, 9, 7) = 1", "heard(0, 7, true) = 0", "heard(0, 9, true) = 128", "span(0, 0) = 9",
            "span(0, 1) = 9", "span(0, 2) = 1", "men() = 1", "carry(0, 128) = 129", "runs(0, 1) = -1", "noted(1) = 1", "noted(1) = -2");
        bounds.goes(Runs.RICH, "silence() = 3", "fits(0) = -2", "noted(0) = -2", "span(0, 2) = 0", "count(5) = 2", "back(0) = 2");
    }

    private static void blown() {
        bounds.says(16, "Of a BLOW: 0 its TOWER, 1 BEAT, 2 TONE; 10 and a CELL's number: when it COMES there. BAD.");
        Run full = Runs.FULL_OF_BLOWS;
        bounds.range(full, "blown(#, 0)", 0, 23);
        bounds.range(full, "blown(#, 90)", 0, 23);
        bounds.range(full, "blown(23, #)", 0, 2 + 88);
        for (int what = 3; what < 10; what++) {
            bounds.refused(full, "blown(23, " + what + ") = -1");
        }
        bounds.asks(full, "blown(23, 0) = 1", "blown(23, 1) = 200", "blown(23, 2) = 0", "blown(23, 10) = 216", "blown(23, 90) = 200",
            "blown(0, 90) = 23");
        bounds.cells(Runs.RICH, "blown(2, #)", 8, 7, 10);
        bounds.cells(ONE_CELL, "blown(0, #)", 1, 1, 10);
        bounds.range(Runs.RICH, "blown(#, 1)", 0, 2);
        bounds.refused(Run.fresh(), "blown(0, 0) = -1", "blown(0, 10) = -1");
    }

    private static void heard() {
        bounds.says(17, "TONES that COME to a CELL in a BEAT (0 to 999; echoes: with ECHOES; bits). BAD.");
        for (String echoes : new String[] {"true", "false"}) {
            bounds.range(Runs.RICH, "heard(0, #, " + echoes + ")", 0, 999);
            bounds.cells(Runs.RICH, "heard(#, 0, " + echoes + ")", 8, 7, 0);
        }
        bounds.cells(Run.fresh(), "heard(#, 999, true)", 9, 9, 0);
        bounds.asks(Run.fresh(), "heard(80, 0, true) = 0", "heard(80, 999, false) = 0");
        Run edges = Run.text("tower 0 0 255;").then("blow(0, 0, 0)", "blow(0, 0, 7)", "blow(0, 200, 7)", "blow(0, 200, 3)",
            "blow(0, 200, 3)");
        bounds.asks(edges, "heard(0, 0, false) = 129", "heard(0, 1, false) = 0", "heard(0, 199, false) = 0", "heard(0, 200, false) = 136",
            "heard(0, 201, false) = 0", "heard(80, 16, false) = 129", "heard(80, 216, true) = 136");
    }

    private static void span() {
        bounds.says(18, "how many COME, with ECHOES (2)");
        bounds.range(Runs.RICH, "span(0, #)", 0, 2);
        bounds.cells(Runs.RICH, "span(#, 0)", 8, 7, 0);
        bounds.cells(Run.fresh(), "span(#, 2)", 9, 9, 0);
        bounds.goes(Run.text("tower 0 0 1;hill 0 0;hill 8 8;hill 4 4;").times(24, "blow(0, 200, 0)"), "span(0, 2) = 96",
            "span(0, 0) = 200", "span(0, 1) = 232");
        bounds.says(18, "The first BEAT (what 0), the last one (1) in which anything COMES to a CELL, with ECHOES");
        // no HILL; the first and the last one by the last BLOW
        Run two = Run.text("tower 0 0 1;").then("blow(0, 50, 0)");
        bounds.asks(Runs.FULL_OF_BLOWS, "span(0, 0) = 7", "span(0, 1) = 216", "span(80, 0) = 23", "span(80, 1) = 200", "span(0, 2) = 24");
        bounds.asks(two.then("blow(0, 49, 0)"), "span(0, 0) = 49", "span(0, 1) = 50");
        bounds.asks(two.then("blow(0, 51, 0)"), "span(0, 0) = 50", "span(0, 1) = 51");
        bounds.says(18, "NONE: nothing (0, 1).");
        Run quiet = Run.text("tower 0 0 1;hill 4 4;note 0 0;");
        bounds.refused(quiet, "span(0, 0) = -4", "span(80, 1) = -4");
        bounds.asks(quiet, "span(0, 2) = 0");
        bounds.goes(quiet.then("blow(0, 0, 0)"), "span(0, 0) = 0", "span(0, 1) = 16", "span(0, 2) = 2");
        bounds.says(0, "NONE -4 (there is none), the first that fits");
        bounds.refused(quiet, "span(81, 0) = -1", "span(-1, 1) = -1", "span(0, 3) = -1", "span(0, -1) = -1", "span(81, 2) = -1");
    }
}
