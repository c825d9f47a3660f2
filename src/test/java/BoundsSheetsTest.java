/** What bounds IMAGES and SHEETS: promises 35 to 41 and their part of "Terms" 2, sentence by sentence. */
public final class BoundsSheetsTest {
    private static final Bounds bounds = new Bounds();
    private static final int LEAST = Integer.MIN_VALUE, MOST = Integer.MAX_VALUE;
    private static final Run LAND = Run.text("tower 0 0 255;tower 8 8 1;").then("blow(0, 9, 7)", "noted(8)");

    public static void main(String[] args) {
        keep();
        back();
        imageHolds();
        sheet();
        sheetIsNew();
        lay();
        lowestBits();
        readNumbers();
        readNothing();
        readTorn();
        readRefused();
        readFull();
        torn();
        count();
        bounds.finish(35, 41);
    }

    private static void keep() {
        bounds.says(35, "whether there was one (1, 0). BAD.");
        bounds.range(Runs.RICH, "keep(#)", 0, 1);
        bounds.range(Run.fresh(), "keep(#)", 0, 1);
        bounds.goes(Run.fresh(), "keep(1) = 0", "count(5) = 1", "keep(1) = 1", "count(5) = 1", "back(0) = -2", "keep(0) = 0",
            "count(5) = 2", "keep(0) = 1", "keep(2) = -1", "count(5) = 2");
        bounds.goes(Run.fresh().then("keep(0)", "keep(1)", "land()"), "count(5) = 0", "keep(0) = 0", "keep(1) = 0");
    }

    private static void back() {
        bounds.says(36, "BAD; STATE: there is none.");
        bounds.range(Runs.RICH, "back(#)", 0, 1);
        bounds.range(Run.fresh(), "back(#)", 0, 1);
        bounds.refused(LAND, "back(0) = -2", "back(1) = -2", "back(2) = -1", "back(-1) = -1");
        bounds.refused(LAND.then("keep(0)"), "back(1) = -2");
        bounds.refused(LAND.then("keep(1)"), "back(0) = -2");
        // a text with a FAULT leaves them, one that is taken does not
        bounds.goes(LAND.then("keep(0)").laid("pace 0;").refused("land()"), "back(0) = 1", "back(1) = -2");
        bounds.refused(LAND.then("keep(0)", "keep(1)", "land()"), "back(0) = -2", "back(1) = -2");
        bounds.says(36, "All is as IMAGE k: how many BLOWS.");
        bounds.goes(Run.fresh().then("keep(0)"), "back(0) = 0", "back(0) = 0");
        bounds.goes(Runs.FULL_OF_BLOWS.times(24, "noted(7)").then("keep(0)", "silence()"), "back(0) = 24", "count(3) = 24",
            "count(4) = 24", "blown(23, 1) = 200", "fits(0) = 23", "blow(0, 0, 0) = -3");
        bounds.goes(LAND.then("keep(0)").times(23, "blow(0, 0, 0)").times(23, "noted(3)"), "back(0) = 1", "count(3) = 1",
            "count(4) = 1", "fits(80) = 0", "blown(0, 2) = 7", "noted(5) = -2");
    }

    private static void imageHolds() {
        bounds.says(35, "IMAGE k (0, 1) is TOWERS, the WIND, BLOWS, what is NOTED");
        Run kept = LAND.then("keep(0)");
        Run changed = kept.then("move(0, 40)", "wind(0, 2)", "silence()", "carry(0, 1)", "carry(1, 254)", "blow(0, 4, 0)", "noted(4)");
        bounds.alike(changed.then("back(0)"), kept, "back(0) does not bring all");
        bounds.alike(changed.then("keep(1)", "back(0)", "back(1)"), changed.then("keep(1)"), "back(1) does not bring all");
        bounds.goes(LAND.then("silence()", "blow(1, 200, 0)", "blow(0, 0, 7)", "noted(400)", "wind(2, 0)", "keep(1)")
            .then("wind(0, 2)", "silence()", "carry(0, 0)", "move(0, 44)", "blow(1, 3, 0)", "carry(1, 3)", "move(1, 33)", "blow(1, 4, 1)",
                "blow(1, 4, 1)"), "back(1) = 2", "blown(0, 0) = 1", "blown(0, 1) = 200", "blown(0, 2) = 0", "blown(1, 0) = 0",
            "blown(1, 1) = 0", "blown(1, 2) = 7", "blown(2, 0) = -1", "rule(4) = 2", "rule(5) = 0", "tower(0, 0) = 0",
            "tower(0, 1) = 255", "tower(1, 0) = 80", "tower(1, 1) = 1", "count(4) = 1", "lost(0) = 81");
        // it is no view: what is done later does not change it
        bounds.alike(kept.then("back(0)", "move(1, 3)", "silence()", "back(0)"), kept, "the image has changed");
        // what is no part of it stays: THE TAPE, its FAULT, SHEETS, torn()
        Run more = Runs.sheets(kept).then("read(2, 0, 6, 1)").laid("hill 9 0;").refused("land()").laid("run 4;");
        bounds.alike(more.then("silence()", "back(0)"), more, "back(0) has changed more");
        bounds.alike(more.then("keep(0)"), more, "keep(0) has changed more");
    }

    private static void sheet() {
        bounds.says(37, "A SHEET is a new row of CELLS 0: 1. BAD: also n above 40; -14 (SIZE): n below 0.");
        bounds.range(Runs.RICH, "sheet(#, 0, 5)", 0, 3);
        bounds.range(Runs.RICH, "sheet(0, #, 5)", 0, 2);
        for (int k = 0; k < 4; k++) {
            bounds.refused(Runs.RICH, "sheet(" + k + ", 2, 41) = -1", "sheet(" + k + ", 2, " + MOST + ") = -1",
                "sheet(" + k + ", 2, -1) = -14", "sheet(" + k + ", 2, " + LEAST + ") = -14", "sheet(" + k + ", 0, -40) = -14");
        }
        bounds.refused(Run.fresh(), "sheet(0, 0, 41) = -1", "sheet(0, 1, -1) = -14");
        bounds.goes(Run.fresh(), "sheet(0, 0, 0) = 1", "count(7) = 0", "sheet(0, 1, 40) = 1", "count(7) = 40", "sheet(0, 2, -1) = -14",
            "count(7) = 40", "sheet(0, 2, 41) = -1", "count(7) = 40", "sheet(0, 2, 1) = 1", "count(7) = 1");
        bounds.says(0, "the first that fits");
        bounds.refused(Runs.RICH, "sheet(4, 0, -1) = -1", "sheet(-1, 0, -1) = -1", "sheet(0, 3, -1) = -1", "sheet(0, -1, -1) = -1",
            "sheet(4, 3, 41) = -1");
        bounds.says(0, "with 0 to 40 CELLS, or nothing (at first)");
        bounds.goes(Run.fresh().then("sheet(3, 2, 0)"), "lay(3, 0, 0) = -12", "lay(2, 0, 0) = -11", "read(3, 2, 0, 1) = 0",
            "torn() = 2", "read(2, 2, 0, 1) = 0", "torn() = 1");
    }

    private static void sheetIsNew() {
        bounds.says(37, "A SHEET is a new row of CELLS 0: 1.");
        for (int lane = 0; lane < 3; lane++) {
            Run laid = LAND.then("sheet(1, " + lane + ", 40)");
            for (int i = 0; i < 40; i++) {
                laid = laid.then("lay(1, " + i + ", 1)");
            }
            for (int next = 0; next < 3; next++) {
                String call = "sheet(1, " + next + ", 40)";
                bounds.alike(laid.then(call), LAND.then(call), "the old row is seen in " + call);
                // a shorter row ahead does not hide what stood behind it
                bounds.alike(laid.then("sheet(1, 0, 3)", call), LAND.then(call), "an older row is seen in " + call);
            }
        }
        bounds.alike(Runs.RICH.then("sheet(1, 1, 4)", "lay(1, 1, 9)"), Runs.RICH.then("sheet(1, 1, 4)", "lay(1, 1, 9)", "lay(0, 38, 7)"),
            "a SHEET changes another one");
    }

    private static void lay() {
        bounds.says(38, "BAD: k; -10 less the FAULT: NULL, INDEX.");
        bounds.range(Runs.RICH, "lay(#, 0, 1)", 0, 3);
        for (int lane = 0; lane < 3; lane++) {
            for (int n : new int[] {0, 1, 39, 40}) {
                Run row = LAND.then("sheet(2, " + lane + ", " + n + ")");
                if (n > 0) bounds.goes(row, "lay(2, 0, 5) = 1", "lay(2, " + (n - 1) + ", 5) = 1");
                bounds.refused(row, "lay(2, -1, 5) = -12", "lay(2, " + n + ", 5) = -12", "lay(2, " + LEAST + ", 5) = -12",
                    "lay(2, " + MOST + ", 5) = -12", "lay(1, 0, 5) = -11");
            }
        }
        bounds.refused(Runs.RICH, "lay(1, 0, 0) = -11", "lay(1, -1, 0) = -11", "lay(1, 40, 0) = -11", "lay(1, " + MOST + ", 0) = -11");
        bounds.refused(Runs.RICH, "lay(4, -1, 0) = -1", "lay(-1, 40, 0) = -1");
        bounds.alike(Runs.RICH.then("lay(0, 3, 4)"), Runs.RICH.then("lay(0, 3, 9)", "lay(0, 3, 4)"), "it becomes v");
    }

    /** Lays v as a BEAT: what is read then is the number that the lane holds, or none that is a BEAT. */
    private static void holds(int lane, int v, int due) {
        Run laid = Run.text("tower 0 0 1;").then("sheet(1, " + lane + ", 3)", "lay(1, 1, " + v + ")");
        if (due >= 0 && due <= 200) bounds.goes(laid, "read(1, " + lane + ", 0, 1) = 1", "blown(0, 1) = " + due);
        else bounds.refused(laid, "read(1, " + lane + ", 0, 1) = -20");
    }

    private static void lowestBits() {
        bounds.says(38, "CELL i of a SHEET becomes v (its lowest bits): 1.");
        int[] edges = {0, 1, 127, 128, 200, 201, 255, 256, 257, 383, 384, 32767, 32768, 65535, 65536, 65537, 65736, 65737, -1, -128,
            -129, -255, -256, -32768, -32769, -65336, -65535, -65536, MOST, LEAST, MOST - 127, LEAST + 127, LEAST + 200, 16777216};
        for (int v : edges) {
            holds(0, v, (byte) v);
            holds(1, v, (short) v);
            holds(2, v, v);
        }
        bounds.says(0, "all with a sign");
        // a TOWER, a TONE below 0 are none
        bounds.refused(Run.text("tower 0 0 1;").then("sheet(1, 0, 3)", "lay(1, 0, 255)"), "read(1, 0, 0, 1) = -20");
        bounds.refused(Run.text("tower 0 0 1;").then("sheet(1, 1, 3)", "lay(1, 2, 65535)"), "read(1, 1, 0, 1) = -20");
    }

    private static void readNumbers() {
        bounds.says(39, "BAD: k, lane, n");
        Run full = LAND.then("sheet(1, 1, 40)");
        bounds.range(full, "read(1, 1, 0, #)", 0, 13);
        bounds.range(full, "read(#, 1, 0, 1)", 0, 3);
        bounds.range(full, "read(#, 1, 0, 0)", 0, 3);
        bounds.range(full, "read(1, #, 0, 1)", 0, 2);
        bounds.range(full, "read(1, #, 0, 0)", 0, 2);
        bounds.refused(full, "read(4, 3, -1, 14) = -1", "read(1, 1, 99, 14) = -1", "read(2, 1, 0, 14) = -1", "read(2, 1, 0, -1) = -1");
        bounds.says(39, "three CELLS each from CELL f on, one behind another as by blow(): how many came");
        bounds.goes(full, "read(1, 1, 0, 13) = 13", "torn() = 0", "count(3) = 14", "count(4) = 1", "blown(0, 2) = 7", "blown(13, 2) = 0");
        bounds.goes(full, "read(1, 1, 1, 13) = 13", "torn() = 0");
        bounds.goes(full, "read(1, 1, 2, 13) = 12", "torn() = 2", "count(3) = 13");
        bounds.goes(full, "read(1, 1, 37, 1) = 1", "torn() = 0", "read(1, 1, 37, 2) = 1", "torn() = 2", "count(3) = 3");
        bounds.goes(LAND.then("sheet(0, 2, 7)", "lay(0, 1, 1)", "lay(0, 2, 200)", "lay(0, 4, 0)", "lay(0, 5, 3)", "lay(0, 6, 7)"),
            "read(0, 2, 1, 2) = 2", "blown(1, 0) = 1", "blown(1, 1) = 200", "blown(1, 2) = 0", "blown(2, 0) = 0", "blown(2, 1) = 3",
            "blown(2, 2) = 7");
    }

    private static void readNothing() {
        bounds.says(39, "of n 0: 0, no FAULT, whatever the SHEET is");
        Run torn = LAND.then("sheet(1, 1, 3)", "read(3, 0, 0, 1)");
        bounds.goes(torn, "torn() = 1");
        for (int k = 0; k < 4; k++) {
            for (int f : new int[] {0, -1, 1, 3, 40, MOST, LEAST}) {
                String call = "read(" + k + ", 2, " + f + ", 0)";
                bounds.goes(torn, call + " = 0", "torn() = 0", "count(3) = 1");
                bounds.alike(torn.then(call), torn, call + " has changed something", ": torn = ");
            }
        }
    }

    /** A FAULT by which so many came. */
    private static void tears(Run run, String call, int came, int fault) {
        bounds.goes(run, call + " = " + came, "torn() = " + fault, "count(3) = " + (1 + came), "count(4) = 1");
        if (came == 0) bounds.alike(run.then(call), run, call + " has changed something", ": torn = ");
    }

    private static void readTorn() {
        bounds.says(39, "What the machine refuses: those that were whole ahead come (its FAULT is asked by torn()");
        for (int lane = 0; lane < 3; lane++) {
            Run eight = LAND.then("sheet(1, " + lane + ", 8)");
            String read = "read(1, " + lane + ", ";
            tears(eight, read + "0, 2)", 2, 0);
            tears(eight, read + "0, 3)", 2, 2);
            tears(eight, read + "2, 2)", 2, 0);
            tears(eight, read + "3, 2)", 1, 2);
            tears(eight, read + "5, 1)", 1, 0);
            for (int f : new int[] {6, 7, 8, 9, 40, -1, -2, -3, -4, LEAST, LEAST + 1, MOST, MOST - 1, MOST - 2, MOST - 3, MOST - 38}) {
                tears(eight, read + f + ", 1)", 0, 2);
                tears(eight, read + f + ", 13)", 0, 2);
            }
            tears(LAND.then("sheet(1, " + lane + ", 0)"), read + "0, 1)", 0, 2);
            tears(LAND.then("sheet(1, " + lane + ", 2)"), read + "0, 1)", 0, 2);
            tears(LAND.then("sheet(1, " + lane + ", 3)"), read + "0, 1)", 1, 0);
            bounds.says(0, "3 CAST (another lane)");
            for (int other = 0; other < 3; other++) {
                if (other != lane) tears(eight, "read(1, " + other + ", 0, 1)", 0, 3);
                if (other != lane) tears(eight, "read(1, " + other + ", -1, 13)", 0, 3);
            }
            bounds.says(0, "1 NULL (nothing)");
            tears(eight, "read(2, " + lane + ", 0, 1)", 0, 1);
            tears(eight, "read(2, " + lane + ", -1, 13)", 0, 1);
        }
    }

    private static void readRefused() {
        bounds.says(39, "-20 less i (0 on): BLOW i, whole, is refused by blow() (in whichever way): then none came; the first met.");
        Run row = LAND.then("sheet(1, 2, 40)");
        // TOWER, BEAT, TONE of BLOW 0, of the last one of 13: out of bounds on both sides, or no PIPE
        String[] wrong = {"0, 2", "0, -1", "1, 201", "1, -1", "2, 8", "2, -1", "0, " + LEAST, "0, " + MOST, "1, " + MOST, "2, " + LEAST};
        for (String lies : wrong) {
            int cell = Integer.parseInt(lies.substring(0, 1));
            String v = lies.substring(3);
            for (int i : new int[] {0, 1, 12}) {
                Run spoilt = row.then("lay(1, " + (3 * i + cell) + ", " + v + ")");
                bounds.refused(spoilt, "read(1, 2, 0, 13) = " + (-20 - i));
                if (i > 0) bounds.goes(spoilt, "read(1, 2, 0, " + i + ") = " + i);
            }
        }
        Run noPipe = row.then("lay(1, 3, 1)", "lay(1, 5, 7)");
        bounds.refused(noPipe, "read(1, 2, 0, 2) = -21", "read(1, 2, 3, 1) = -20", "read(1, 2, 0, 13) = -21");
        bounds.goes(row.then("lay(1, 3, 1)", "lay(1, 4, 200)", "lay(1, 2, 7)"), "read(1, 2, 0, 2) = 2", "torn() = 0");
        // the first met: a refused BLOW ahead of the end of the row, and the other way
        Run short8 = LAND.then("sheet(1, 2, 8)", "lay(1, 3, 9)");
        bounds.refused(short8, "read(1, 2, 0, 3) = -21", "read(1, 2, 0, 13) = -21", "read(1, 2, 3, 2) = -20");
        tears(LAND.then("sheet(1, 2, 8)", "lay(1, 6, 9)", "lay(1, 7, 999)"), "read(1, 2, 0, 3)", 2, 2);
        tears(LAND.then("sheet(1, 2, 8)", "lay(1, 6, 9)", "lay(1, 7, 999)"), "read(1, 2, 6, 1)", 0, 2);
        bounds.refused(Run.fresh().then("sheet(0, 0, 3)"), "read(0, 0, 0, 1) = -20");
    }

    private static void readFull() {
        bounds.says(39, "is refused by blow() (in whichever way): then none came");
        Run row = Run.text("tower 0 0 1;").then("sheet(0, 0, 40)");
        Run eleven = row.times(11, "blow(0, 3, 0)").then("noted(3)");
        bounds.goes(eleven, "read(0, 0, 0, 13) = 13", "count(3) = 24", "count(4) = 1", "read(0, 0, 0, 1) = -20", "count(3) = 24",
            "read(0, 0, 38, 1) = 0", "torn() = 2");
        bounds.refused(eleven.then("blow(0, 3, 0)"), "read(0, 0, 0, 13) = -32");
        bounds.goes(eleven.then("blow(0, 3, 0)"), "read(0, 0, 0, 12) = 12", "count(3) = 24");
        Run full = row.times(24, "blow(0, 3, 0)").times(24, "noted(3)");
        bounds.refused(full, "read(0, 0, 0, 1) = -20", "read(0, 0, 0, 13) = -20", "read(0, 0, 37, 1) = -20");
        bounds.goes(full, "read(0, 0, 0, 0) = 0", "torn() = 0", "read(0, 1, 0, 1) = 0", "torn() = 3", "read(1, 0, 0, 1) = 0",
            "torn() = 1", "read(0, 0, -1, 1) = 0", "torn() = 2", "count(3) = 24", "count(4) = 24");
    }

    private static void torn() {
        bounds.says(40, "The FAULT of the latest read() that answered 0 or more; 0 (one that is refused leaves it).");
        bounds.asks(Run.fresh(), "torn() = 0");
        Run row = Run.text("tower 0 0 1;").then("sheet(0, 0, 3)", "sheet(1, 0, 3)", "lay(1, 0, 1)");
        bounds.goes(row.refused("read(1, 0, 0, 1)"), "torn() = 0");
        String[] reads = {"read(2, 0, 0, 1)", "read(0, 0, 1, 1)", "read(0, 1, 0, 1)"};
        for (int i = 0; i < reads.length; i++) {
            Run torn = row.then(reads[i]);
            bounds.asks(torn, "torn() = " + (i + 1));
            for (String refused : new String[] {"read(1, 0, 0, 1) = -20", "read(4, 0, 0, 1) = -1", "read(0, 3, 0, 1) = -1",
                "read(0, 0, 0, 14) = -1", "read(0, 0, 0, -1) = -1", "lay(3, 0, 0) = -11", "lay(0, 3, 0) = -12", "sheet(0, 0, -1) = -14"}) {
                bounds.goes(torn, refused, "torn() = " + (i + 1));
            }
            bounds.goes(torn, "sheet(0, 0, 40) = 1", "land() = 0", "torn() = " + (i + 1));
            bounds.goes(torn, "read(0, 0, 0, 1) = 1", "torn() = 0");
            bounds.goes(torn, "read(0, 0, 0, 0) = 0", "torn() = 0");
        }
    }

    private static void count() {
        bounds.says(41, "7 CELLS of SHEET 0 (NONE: nothing). BAD.");
        bounds.range(Runs.RICH, "count(#)", 0, 7);
        bounds.range(Run.fresh(), "count(#)", 0, 7);
        bounds.refused(Run.fresh(), "count(7) = -4");
        bounds.refused(Run.fresh().then("sheet(1, 0, 5)", "sheet(2, 0, 5)", "sheet(3, 0, 5)"), "count(7) = -4");
        bounds.asks(Run.fresh().then("sheet(0, 1, 0)"), "count(7) = 0");
        bounds.asks(Run.fresh().then("sheet(0, 1, 40)"), "count(7) = 40");
        bounds.says(41, "0 TOWERS, 1 HILLS, 2 NOTES, 3 BLOWS, 4 NOTED, 5 IMAGES, 6 bytes on THE TAPE");
        bounds.asks(Run.fresh(), "count(0) = 0", "count(1) = 0", "count(2) = 0", "count(3) = 0", "count(4) = 0", "count(5) = 0",
            "count(6) = 0");
        bounds.asks(Runs.RICH, "count(0) = 3", "count(1) = 2", "count(2) = 3", "count(3) = 3", "count(4) = 2", "count(5) = 2",
            "count(6) = 25", "count(7) = 40");
        bounds.asks(Runs.FULL_OF_BLOWS.times(24, "noted(0)").then("keep(0)", "keep(1)").times(40, "feed(0)"), "count(3) = 24",
            "count(4) = 24", "count(5) = 2", "count(6) = 320");
        bounds.asks(Run.text("tower 0 0 0;".repeat(6) + "hill 0 0;".repeat(3) + "note 0 0;".repeat(12)), "count(0) = 6", "count(1) = 3",
            "count(2) = 12");
    }
}
