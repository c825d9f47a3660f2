/** What bounds the text and the land: "Terms" 1, promises 1 to 12, sentence by sentence. */
public final class BoundsTextTest {
    private static final Bounds bounds = new Bounds();
    private static final String BLANKS = "feed(0x2020202020202020)";

    public static void main(String[] args) {
        newObject();
        lastCall();
        feed();
        end();
        lands();
        inPlaceOfAll();
        faultAsked();
        numbersOfLines();
        notesByOrder();
        mostOfEach();
        blanks();
        everyByte();
        figures();
        tokenThatCanNotStand();
        toldTwice();
        tooMany();
        noSuchCell();
        firstMet();
        askedOfTheLand();
        wind();
        carry();
        move();
        bounds.finish(1, 12);
    }

    /** A text with a FAULT: nothing of it is told, THE TAPE is empty. */
    private static void fault(String text, int fault, int place) {
        bounds.goes(Run.fresh().laid(text), "land() = " + (-10 - place), "fault() = " + fault, "count(6) = 0");
        Run left = Runs.RICH.laid(text).refused("land()");
        bounds.goes(left, "fault() = " + fault, "count(6) = 0");
        bounds.alike(left, Runs.RICH.then("end(0)"), "'" + text + "' has changed something", ": fault = ");
    }

    private static void taken(String text, int lines, String... asked) {
        bounds.goes(Runs.RICH.laid(text), "land() = " + lines, "fault() = 0", "count(6) = 0");
        bounds.goes(Runs.RICH.tells(text), asked);
    }

    private static void newObject() {
        bounds.says(1, "A GROUND of 9 by 9, nothing on it; SHEETS have nothing.");
        bounds.goes(Run.fresh(), "rule(0) = 9", "rule(1) = 9", "takes(0, 80) = 16", "takes(0, 81) = -1");
        bounds.goes(Run.fresh(), "count(0) = 0", "count(1) = 0", "count(2) = 0", "count(3) = 0", "count(4) = 0", "count(5) = 0",
            "count(6) = 0", "count(7) = -4");
        bounds.refused(Run.fresh(), "tower(0, 0) = -1", "hill(0) = -1", "note(0, 0) = -1", "blown(0, 0) = -1", "back(0) = -2",
            "back(1) = -2", "lay(0, 0, 0) = -11", "lay(1, 0, 0) = -11", "lay(2, 0, 0) = -11", "lay(3, 0, 0) = -11");
        bounds.says(0, "pace (1 to 9; 2)");
        bounds.goes(Run.fresh(), "rule(2) = 2");
        bounds.says(0, "run (1 to 9; 3)");
        bounds.goes(Run.fresh(), "rule(3) = 3");
        bounds.says(0, "(WIND: 0 to 2, less 1: from -1 to 1; 0)");
        bounds.goes(Run.fresh(), "rule(4) = 1", "rule(5) = 1", "fault() = 0", "torn() = 0");
    }

    private static void lastCall() {
        bounds.says(0, "An object is used for at most 512 calls after it has been made");
        bounds.goes(Run.fresh().times(255, "wind(0, 2)").times(255, "wind(2, 0)"), "wind(1, 1) = 6", "wind(1, 1) = 4");
    }

    private static void feed() {
        bounds.says(2, "FULL: more than 320.");
        Run forty = Run.fresh().laid("pace 4;").then("feed(0x2020202020202020)", "end(8)").times(39, BLANKS);
        bounds.goes(Run.fresh().times(39, BLANKS), BLANKS + " = 320", "count(6) = 320", "land() = 0");
        bounds.refused(forty, BLANKS + " = -3", "feed(0) = -3", "feed(-1) = -3");
        bounds.refused(forty.then("end(313)"), "feed(0) = -3");
        bounds.refused(forty.then("end(319)"), "feed(0) = -3");
        bounds.goes(forty.then("end(312)"), BLANKS + " = 320", BLANKS + " = -3", "land() = 1", "rule(2) = 4");
        bounds.says(2, "Eight bytes come behind THE TAPE, the highest first: how many it has.");
        bounds.goes(Run.fresh(), "feed(0x7061636520373b20) = 8", "feed(0x72756e2031203b20) = 16", "land() = 2", "rule(2) = 7",
            "rule(3) = 1");
        bounds.goes(Run.fresh().then("feed(-1)"), "land() = -10", "fault() = 1");
        bounds.goes(Run.fresh().then("feed(0x70616365203720ff)"), "land() = -17", "fault() = 1");
        bounds.goes(Run.fresh().laid("pace 3").then("feed(0x343b202020202020)"), "land() = -15", "fault() = 3");
    }

    private static void end() {
        bounds.says(3, "BAD (n above that, too).");
        bounds.range(Run.fresh(), "end(#)", 0, 0);
        bounds.range(Runs.RICH, "end(#)", 0, 25);
        bounds.range(Run.fresh().times(40, BLANKS), "end(#)", 0, 320);
        bounds.says(3, "THE TAPE keeps its first n bytes: how many it had.");
        bounds.goes(Run.fresh(), "end(0) = 0", "count(6) = 0");
        bounds.goes(Runs.RICH, "end(25) = 25", "count(6) = 25", "end(24) = 25", "end(25) = -1", "land() = -34", "fault() = 2");
        bounds.goes(Runs.RICH, "end(7) = 25", "land() = 1", "rule(2) = 4", "rule(3) = 3");
        bounds.goes(Runs.RICH, "end(0) = 25", "end(1) = -1", "land() = 0");
        bounds.goes(Run.fresh().times(40, BLANKS), "end(320) = 320", "end(319) = 320", "end(320) = -1");
    }

    private static void lands() {
        bounds.says(4, "THE TAPE (empty then, by a FAULT, too) tells the land: how many lines");
        bounds.goes(Run.fresh(), "land() = 0", "fault() = 0", "count(6) = 0");
        bounds.goes(Runs.RICH, "land() = 3", "count(6) = 0", "land() = 0", "rule(2) = 2");
        bounds.goes(Runs.RICH.laid("pace 10;"), "land() = -15", "count(6) = 0", "fault() = 3", "land() = 0", "fault() = 0");
        String most = "ground 9 9;pace 9;run 9;wind 2 2;" + "tower 8 8 255;".repeat(6) + "hill 8 8;".repeat(3)
            + "note 60 7;".repeat(12);
        taken(most, 25, "count(0) = 6", "count(1) = 3", "count(2) = 12", "tower(5, 1) = 255", "hill(2) = 80", "note(11, 1) = 7");
        bounds.says(4, "-10 less the place of its FAULT: that which was told stays.");
        fault("!", 1, 0);
        fault(" ".repeat(319) + "!", 1, 319);
        fault(" ".repeat(316) + "pace", 2, 320);
        fault(" ".repeat(315) + "pace3", 2, 320);
        fault(most + "!", 1, most.length());
    }

    private static void inPlaceOfAll() {
        bounds.says(0, "A text that is taken tells all, in place of what there was (what no line tells is as at first)");
        Run bare = Runs.sheets(Run.fresh().tells("tower 0 0 255;")).then("read(2, 0, 5, 1)");
        String[] texts = {"", "   ", "ground 3 4;", "pace 7;", "run 8;", "wind 2 0;", "tower 3 4 5;", "hill 6 7;", "note 8 1;"};
        for (String text : texts) {
            bounds.alike(Runs.RICH.tells(text), bare.tells(text), "'" + text + "' does not tell all");
        }
        // of what was told before, once and twice ago, nothing is left
        String most = "tower 0 0 255;".repeat(6) + "hill 8 8;".repeat(3) + "note 60 7;".repeat(12);
        Run small = Run.text(most).tells(most).tells("tower 4 4 1;note 0 0;note 0 1;");
        bounds.goes(small, "plays(0) = -4", "twice(0, 80, 0) = 0", "twice(0, 80, 12) = -1", "both(0, 80, 0) = -4", "fewest(0) = -4",
            "pipes(0) = 1", "pipes(2) = -4", "move(1, 0) = -1", "carry(1, 0) = -1", "blow(1, 0, 0) = -1", "blow(0, 0, 0) = 1",
            "span(80, 2) = 1", "span(80, 1) = 8", "off(0) = -2", "right(0) = -4");
        bounds.alike(small, Run.text("tower 4 4 1;note 0 0;note 0 1;"), "something is left");
        bounds.says(0, "no BLOWS, nothing NOTED; IMAGES are gone; SHEETS stay.");
        bounds.goes(Runs.RICH.then("land()"), "count(3) = 0", "count(4) = 0", "count(5) = 0", "back(0) = -2", "back(1) = -2",
            "count(7) = 40", "lay(3, 0, 0) = -12", "lay(1, 0, 0) = -11", "lay(2, 6, 0) = 1", "torn() = 2");
    }

    private static void faultAsked() {
        bounds.says(5, "The FAULT of the latest land(); 0.");
        bounds.asks(Run.fresh(), "fault() = 0");
        String[] texts = {"?", "x", "pace 0;", "run 1;run 1;", "hill 0 0;".repeat(4), "ground 1 1;hill 1 0;"};
        for (int i = 0; i < texts.length; i++) {
            Run faulty = Runs.RICH.laid(texts[i]).refused("land()");
            bounds.asks(faulty, "fault() = " + (i + 1));
            bounds.goes(faulty.tells("pace 1;"), "fault() = 0");
        }
        bounds.goes(Runs.RICH, "fault() = 3", "end(26) = -1", "fault() = 3", "land() = 3", "fault() = 0");
    }

    /** One NUMBER of a line after another: the last that is taken and the first that is refused, on both sides. */
    private static void number(String before, int low, int high, String behind, String asked, int more) {
        taken(before + low + behind, 1, asked + " = " + (low + more));
        taken(before + high + behind, 1, asked + " = " + (high + more));
        if (low > 0) fault(before + (low - 1) + behind, 3, before.length());
        fault(before + (high + 1) + behind, 3, before.length());
        fault(before + "999" + behind, 3, before.length());
        // a NUMBER has no sign
        fault(before + "-1" + behind, 1, before.length());
    }

    private static void numbersOfLines() {
        bounds.says(0, "(wide, high 1 to 9; 9, 9)");
        number("ground ", 1, 9, " 9;", "rule(0)", 0);
        number("ground 9 ", 1, 9, ";", "rule(1)", 0);
        bounds.says(0, "2 pace (1 to 9; 2)");
        number("pace ", 1, 9, ";", "rule(2)", 0);
        bounds.says(0, "3 run (1 to 9; 3)");
        number("run ", 1, 9, ";", "rule(3)", 0);
        bounds.says(0, "wind: east, south (0 to 2; 1 is none)");
        number("wind ", 0, 2, " 1;", "rule(4)", 0);
        number("wind 1 ", 0, 2, ";", "rule(5)", 0);
        bounds.says(0, "tower: x, y (0 to 8), PIPES.");
        number("tower ", 0, 8, " 8 255;", "tower(0, 0)", 72);
        taken("tower 8 0 0;", 1, "tower(0, 0) = 8");
        taken("tower 8 8 0;", 1, "tower(0, 0) = 80");
        fault("tower 0 9 0;", 3, 8);
        fault("tower 8 99 0;", 3, 8);
        bounds.says(0, "PIPES: TONES 0 to 7 as bits (0 to 255)");
        number("tower 4 4 ", 0, 255, ";", "tower(0, 1)", 0);
        bounds.says(0, "hill: x, y.");
        number("hill ", 0, 8, " 8;", "hill(0)", 72);
        taken("hill 8 0;", 1, "hill(0) = 8");
        taken("hill 0 8;", 1, "hill(0) = 72");
        fault("hill 0 9;", 3, 7);
        bounds.says(0, "TONE (0 to 7)");
        number("note 30 ", 0, 7, ";", "note(0, 1)", 0);
        bounds.says(0, "a CELL's number is 9 times y and x");
        taken("ground 2 3;tower 1 2 0;", 2, "tower(0, 0) = 19", "takes(19, 0) = 4", "takes(18, 1) = 4", "takes(2, 0) = -1",
            "takes(27, 0) = -1");
    }

    private static void notesByOrder() {
        bounds.says(0, "BEAT (0 to 60, no less than that ahead)");
        number("note ", 0, 60, " 7;", "note(0, 0)", 0);
        taken("note 0 0;note 0 0;", 2, "note(1, 0) = 0");
        taken("note 60 0;note 60 0;", 2, "note(1, 0) = 60");
        taken("note 31 1;note 31 0;note 32 0;", 3, "note(1, 0) = 31", "note(2, 0) = 32");
        fault("note 31 1;note 30 0;", 3, 15);
        fault("note 1 1;note 0 0;", 3, 14);
        fault("note 5 0;note 9 0;note 7 0;", 3, 23);
        fault("note 60 1;note 61 0;", 3, 15);
        // the beat is looked at when it is read, not when its line ends
        fault("note 5 0;note 4 8;", 3, 14);
        fault("note 5 0;note 4!", 3, 14);
        // what is told anew has no beat ahead, whatever was told
        taken("note 0 0;", 1, "note(0, 0) = 0", "count(2) = 1");
    }

    private static void mostOfEach() {
        bounds.says(0, "TOWERS (6 at most)");
        taken("tower 1 2 3;".repeat(6), 6, "count(0) = 6", "tower(5, 0) = 19", "tower(6, 0) = -1");
        bounds.says(0, "HILLS (3 at most)");
        taken("hill 1 2;".repeat(3), 3, "count(1) = 3", "hill(2) = 19", "hill(3) = -1");
        bounds.says(0, "NOTES (12 at most)");
        taken("note 1 2;".repeat(12), 12, "count(2) = 12", "note(11, 0) = 1", "note(12, 0) = -1");
        bounds.says(0, "{ line }");
        taken("hill 1 1;note 1 1;tower 1 1 1;wind 0 0;run 1;pace 1;ground 2 2;", 7, "rule(0) = 2", "hill(0) = 10");
    }

    private static void blanks() {
        bounds.says(0, "any number of blanks (32) ahead of, between, behind them");
        taken(" ".repeat(313) + "pace 9;", 1, "rule(2) = 9");
        taken("pace" + " ".repeat(314) + "9;", 1, "rule(2) = 9");
        taken("pace 9" + " ".repeat(313) + ";", 1, "rule(2) = 9");
        taken("pace 9;" + " ".repeat(313), 1, "rule(2) = 9");
        taken(" ".repeat(320), 0, "rule(2) = 2");
        taken(" ", 0, "rule(2) = 2");
        bounds.says(0, "one at least between two NAMES, between two NUMBERS; else none is needed");
        taken("ground3 4;wind0 2;tower1 2 3;hill1 3;note4 5;pace6;run7;", 7, "rule(0) = 3", "rule(3) = 7", "note(0, 1) = 5");
        fault("pacerun 3;", 2, 0);
        fault("pace run 3;", 2, 5);
        fault("ground 34;", 3, 7);
        fault("wind 12;", 3, 5);
        fault("hill 4;", 2, 6);
        fault("gro und 3 4;", 2, 0);
        fault("pace 3 4;", 2, 7);
        fault("note 1 0 0;", 2, 9);
    }

    private static void everyByte() {
        bounds.says(0, "(every other byte is no TOKEN)");
        for (int sign = 0; sign < 256; sign++) {
            boolean letter = sign >= 'a' && sign <= 'z';
            boolean figure = sign >= '0' && sign <= '9';
            String alone = String.valueOf((char) sign);
            String between = "pace" + alone + "3;";
            if (sign == ' ') {
                taken(alone, 0);
                taken(between, 1, "rule(2) = 3");
            } else if (letter || figure || sign == ';') {
                fault(alone, 2, 0);
                if (sign == '0') taken(between, 1, "rule(2) = 3");
                else fault(between, figure ? 3 : 2, letter ? 0 : 4);
            } else {
                fault(alone, 1, 0);
                fault(between, 1, 4);
            }
        }
        bounds.says(0, "NAMES (a .. z)");
        fault("azazaz", 2, 0);
        fault("pac`", 2, 0);
        fault("pace{3;", 1, 4);
        fault("paceZ3;", 1, 4);
    }

    private static void figures() {
        bounds.says(0, "NUMBERS (1 to 3 figures)");
        taken("pace 9;", 1, "rule(2) = 9");
        taken("pace 09;", 1, "rule(2) = 9");
        taken("pace 009;", 1, "rule(2) = 9");
        fault("pace 000;", 3, 5);
        bounds.says(0, "1 no TOKEN, a NUMBER that is too long (its first byte).");
        fault("pace 0009;", 1, 5);
        fault("pace 1000;", 1, 5);
        fault("pace " + "0".repeat(315), 1, 5);
        // as long as may be: 2 to the 32 and 3 is no 3
        fault("pace 4294967299;", 1, 5);
        fault("9".repeat(320), 1, 0);
        fault("1234", 1, 0);
        fault("pace 3 1234;", 1, 7);
        fault("pace 3;  0000", 1, 9);
        fault("pace !3;", 1, 5);
    }

    private static void tokenThatCanNotStand() {
        bounds.says(0, "2 a TOKEN that can not stand there (a NAME that begins no line; or the end: the length).");
        String[][] lines = {{"ground", "1", "1"}, {"pace", "1"}, {"run", "1"}, {"wind", "1", "1"}, {"tower", "0", "0", "1"},
            {"hill", "0", "0"}, {"note", "0", "0"}};
        for (String[] words : lines) {
            StringBuilder text = new StringBuilder(words[0]);
            for (int i = 1; i <= words.length; i++) {
                String ahead = text.toString();
                boolean whole = i == words.length;
                fault(ahead, 2, ahead.length());
                fault(ahead + "  ", 2, ahead.length() + 2);
                fault(ahead + " " + (whole ? "1" : ";"), 2, ahead.length() + 1);
                fault(ahead + " pace", 2, ahead.length() + 1);
                if (!whole) text.append(' ').append(words[i]);
            }
            taken(text + ";", 1);
            fault(text + ";;", 2, text.length() + 1);
            fault(text + "; 5", 2, text.length() + 2);
            // a NAME with another letter, or shorter or longer by one, begins no line
            for (int i = 0; i < words[0].length(); i++) {
                fault(words[0].substring(0, i) + 'z' + words[0].substring(i + 1) + " 1;", 2, 0);
            }
            fault(words[0].substring(0, words[0].length() - 1) + " 1;", 2, 0);
            fault(words[0].substring(1) + " 1;", 2, 0);
            fault(words[0] + "s 1;", 2, 0);
        }
    }

    private static void toldTwice() {
        bounds.says(0, "4 ground, pace, run, wind for the second time (its NAME).");
        for (String line : new String[] {"ground 9 9;", "pace 2;", "run 3;", "wind 1 1;"}) {
            String name = line.substring(0, line.indexOf(' '));
            taken(line, 1);
            fault(line + line, 4, line.length());
            fault(line + "hill 0 0; " + line, 4, line.length() + 10);
            // found at the NAME, whatever comes behind
            fault(line + name, 4, line.length());
            fault(line + name + "!", 4, line.length());
            // two texts may each tell it
            taken(line, 1, "fault() = 0");
        }
        String four = "ground 9 9;pace 2;run 3;wind 1 1;";
        taken(four, 4);
        for (String name : new String[] {"ground", "pace", "run", "wind"}) {
            fault(four + name, 4, four.length());
        }
        bounds.goes(Run.text("pace 3;").laid("pace 3;"), "land() = 1", "fault() = 0");
        taken("tower 0 0 1;tower 0 0 1;hill 0 0;hill 0 0;note 0 0;note 0 0;", 6);
    }

    private static void tooMany() {
        bounds.says(0, "5 the 7th tower, the 4th hill, the 13th note (its NAME).");
        String[] lines = {"tower 0 0 1;", "hill 0 0;", "note 0 0;"};
        int[] most = {6, 3, 12};
        for (int i = 0; i < lines.length; i++) {
            String full = lines[i].repeat(most[i]);
            String name = lines[i].substring(0, lines[i].indexOf(' '));
            taken(full, most[i], "count(" + i + ") = " + most[i]);
            fault(full + lines[i], 5, full.length());
            fault(full + "pace 1; " + lines[i], 5, full.length() + 8);
            fault(full + name, 5, full.length());
            fault(full + name + " 999", 5, full.length());
            // the others are not full by it
            taken(full + lines[(i + 1) % 3] + lines[(i + 2) % 3], most[i] + 2);
        }
    }

    private static void noSuchCell() {
        bounds.says(0, "Behind all (the length): 6 a CELL that there is not.");
        taken("ground 5 4;tower 4 3 1;hill 4 3;", 3, "tower(0, 0) = 31", "hill(0) = 31");
        taken("tower 4 3 1;hill 4 3;ground 5 4;", 3, "tower(0, 0) = 31", "hill(0) = 31");
        taken("ground 1 1;tower 0 0 1;hill 0 0;", 3, "tower(0, 0) = 0");
        for (String line : new String[] {"tower 5 3 1;", "tower 4 4 1;", "tower 8 8 1;", "hill 5 3;", "hill 4 4;", "hill 0 8;"}) {
            fault("ground 5 4;" + line, 6, 11 + line.length());
            fault(line + "ground 5 4;  ", 6, 13 + line.length());
            fault("ground 5 4;tower 4 3 1;hill 4 3;" + line, 6, 32 + line.length());
            fault("ground 5 4;" + line + "tower 4 3 1;hill 4 3;", 6, 32 + line.length());
            // the ground that was told before does not count
            bounds.goes(Run.text("ground 1 1;").laid(line), "land() = 1", "fault() = 0");
        }
        fault("ground 1 1;tower 1 0 1;", 6, 23);
        fault("ground 1 1;tower 0 1 1;", 6, 23);
        // a wide ground has the cell, a high one has not
        taken("ground 9 1;tower 8 0 1;", 2);
        taken("ground 1 9;hill 0 8;", 2);
        fault("ground 9 1;tower 0 8 1;", 6, 23);
        fault("ground 1 9;hill 8 0;", 6, 20);
        bounds.says(4, "-10 less the place of its FAULT");
        fault("ground 1 1;hill 1 1;" + " ".repeat(300), 6, 320);
    }

    private static void firstMet() {
        bounds.says(0, "FAULTS, the first met as it is read (a TOKEN is read when the one before has been taken)");
        fault("pace 0!", 3, 5);
        fault("pace 0x", 3, 5);
        fault("pace 1!", 1, 6);
        fault("pacex!", 2, 0);
        fault("pace pace", 2, 5);
        fault("pace 12345!", 1, 5);
        fault("ground 0 0 0", 3, 7);
        fault("ground 1 1;tower 8 8 1;pace 0;", 3, 28);
        fault("ground 1 1;tower 8 8 1;ground", 4, 23);
        fault("ground 1 1;hill 8 8;pace 1;x", 2, 27);
        fault("ground 1 1;hill 8 8;pace 1;!", 1, 27);
        fault("ground 1 1;" + "hill 8 8;".repeat(4), 5, 38);
        fault("pace 1;pace 0;", 4, 7);
    }

    private static void askedOfTheLand() {
        bounds.says(6, "RULES 0 to 5 (4, 5: 0 to 2, as told). BAD.");
        bounds.range(Runs.RICH, "rule(#)", 0, 5);
        bounds.asks(Run.text("wind 0 2;"), "rule(4) = 0", "rule(5) = 2");
        bounds.asks(Run.text("wind 2 0;"), "rule(4) = 2", "rule(5) = 0");
        bounds.says(7, "Of a TOWER: 0 its CELL, 1 PIPES. BAD.");
        bounds.range(Runs.SIX_TOWERS, "tower(#, 0)", 0, 5);
        bounds.range(Runs.SIX_TOWERS, "tower(#, 1)", 0, 5);
        bounds.range(Runs.SIX_TOWERS, "tower(5, #)", 0, 1);
        bounds.range(Runs.RICH, "tower(#, 0)", 0, 2);
        bounds.refused(Run.fresh(), "tower(0, 0) = -1", "tower(0, 1) = -1");
        bounds.says(8, "The CELL of a HILL. BAD.");
        bounds.range(Run.text("hill 0 0;hill 1 0;hill 8 8;"), "hill(#)", 0, 2);
        bounds.range(Runs.RICH, "hill(#)", 0, 1);
        bounds.refused(Run.fresh(), "hill(0) = -1");
        bounds.says(9, "Of a NOTE: 0 BEAT, 1 TONE. BAD.");
        bounds.range(Runs.TWELVE_NOTES, "note(#, 0)", 0, 11);
        bounds.range(Runs.TWELVE_NOTES, "note(#, 1)", 0, 11);
        bounds.range(Runs.TWELVE_NOTES, "note(11, #)", 0, 1);
        bounds.range(Runs.RICH, "note(#, 0)", 0, 2);
        bounds.asks(Runs.TWELVE_NOTES, "note(11, 0) = 60", "note(11, 1) = 7", "note(10, 0) = 0", "note(10, 1) = 0");
        bounds.refused(Run.fresh(), "note(0, 0) = -1");
    }

    private static void wind() {
        bounds.says(10, "The WIND becomes east, south (0 to 2 each): 3 times east and south as they were. BAD.");
        bounds.range(Runs.RICH, "wind(#, 1)", 0, 2);
        bounds.range(Runs.RICH, "wind(1, #)", 0, 2);
        bounds.refused(Runs.RICH, "wind(3, 3) = -1", "wind(-1, 2) = -1", "wind(2, -1) = -1");
        bounds.goes(Run.fresh(), "wind(0, 0) = 4", "wind(0, 2) = 0", "wind(2, 0) = 2", "wind(2, 2) = 6", "wind(2, 2) = 8",
            "rule(4) = 2", "rule(5) = 2");
    }

    private static void carry() {
        bounds.says(11, "PIPES of a TOWER become some TONES: what they were. BAD; STATE: a BLOW of it would have no PIPE.");
        Run blown = Run.text("tower 0 0 255;tower 0 0 128;").then("blow(0, 1, 0)", "blow(0, 1, 7)", "blow(0, 2, 3)", "noted(1)");
        bounds.range(Runs.SIX_TOWERS, "carry(#, 1)", 0, 5);
        bounds.range(Runs.SIX_TOWERS, "carry(0, #)", 0, 255);
        bounds.range(blown, "carry(1, #)", 0, 255);
        bounds.refused(Run.fresh(), "carry(0, 0) = -1");
        bounds.refused(blown, "carry(0, 136) = -2", "carry(0, 129) = -2", "carry(0, 9) = -2", "carry(0, 0) = -2", "carry(0, 254) = -2",
            "carry(0, 127) = -2");
        bounds.goes(blown, "carry(0, 137) = 255", "carry(0, 255) = 137", "carry(1, 0) = 128", "carry(1, 255) = 0");
        bounds.goes(blown.then("silence()"), "carry(0, 0) = 255", "carry(0, 0) = 0");
        // the first that fits
        bounds.refused(blown, "carry(0, 256) = -1", "carry(0, -1) = -1", "carry(2, 0) = -1");
    }

    private static void move() {
        bounds.says(12, "A TOWER is moved to a CELL: its CELL before. BAD.");
        bounds.range(Runs.SIX_TOWERS, "move(#, 80)", 0, 5);
        bounds.refused(Run.fresh(), "move(0, 0) = -1");
        bounds.cells(Runs.RICH, "move(2, #)", 8, 7, 0);
        bounds.cells(Runs.SIX_TOWERS, "move(5, #)", 9, 9, 0);
        bounds.cells(Run.text("ground 1 1;tower 0 0 1;"), "move(0, #)", 1, 1, 0);
        // to where it is, to where another one is, to a HILL
        bounds.goes(Run.text("tower 3 0 1;tower 4 0 1;hill 5 0;"), "move(0, 3) = 3", "move(0, 4) = 3", "move(0, 5) = 4",
            "tower(0, 0) = 5", "tower(1, 0) = 4");
    }
}
