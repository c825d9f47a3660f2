/** Promises 1 to 12. */
public final class TextTest {
    private static final Check check = new Check();

    public static void main(String[] args) {
        newObject();
        feedAndEnd();
        landTaken();
        landInPlaceOfAll();
        tokens();
        faultOne();
        faultTwo();
        faultThree();
        faultFour();
        faultFive();
        faultSix();
        firstFaultMet();
        cutTokens();
        askedOfTheLand();
        wind();
        carry();
        move();
        check.finish();
    }

    private static void newObject() {
        ChurchOrgan x = new ChurchOrgan();
        int[] rules = {9, 9, 2, 3, 1, 1};
        for (int i = 0; i < rules.length; i++) {
            check.due("new: rule " + i, x.rule(i), rules[i]);
        }
        for (int what = 0; what < 7; what++) {
            check.due("new: count " + what, x.count(what), 0);
        }
        check.due("new: sheet 0", x.count(7), Check.NONE);
        for (int k = 0; k < 4; k++) {
            check.due("new: sheet " + k + " has nothing", x.lay(k, 0, 0), -11);
        }
        check.due("new: fault", x.fault(), 0);
        check.due("new: torn", x.torn(), 0);
        check.due("new: last cell", x.takes(80, 80), 0);
    }

    private static void feedAndEnd() {
        ChurchOrgan x = new ChurchOrgan();
        for (int i = 1; i <= 40; i++) {
            check.due("feed " + i, x.feed(0x2020202020202020L), 8 * i);
        }
        check.due("feed 41", x.feed(0), Check.FULL);
        check.due("count after FULL", x.count(6), 320);
        check.due("end 321", x.end(321), Check.BAD);
        check.due("end -1", x.end(-1), Check.BAD);
        check.due("end 313", x.end(313), 320);
        check.due("feed on 313", x.feed(0), Check.FULL);
        check.due("end 314 of 313", x.end(314), Check.BAD);
        check.due("end 312", x.end(312), 313);
        check.due("feed on 312", x.feed(0x2020202020202020L), 320);
        check.due("blanks alone are no lines", x.land(), 0);
        check.due("the tape is empty then", x.count(6), 0);
        check.due("end 0 of 0", x.end(0), 0);
        check.due("feed: the highest byte first", x.feed(0x7061636520373b20L), 8);
        check.due("pace 7;", x.land(), 1);
        check.due("pace", x.rule(2), 7);
        x.feed(0xff61636520373b20L);
        check.due("a byte above 127", x.land(), -10);
        check.due("its fault", x.fault(), 1);
    }

    private static void landTaken() {
        ChurchOrgan x = new ChurchOrgan();
        String text = "note 0 7; tower 6 4 255;hill 0 4;ground 7 5;pace 9;run 1;wind 2 0;tower 0 0 0;note 0 0;note 60 3;";
        check.due("lines", Check.tell(x, text), 10);
        check.due("fault", x.fault(), 0);
        int[] rules = {7, 5, 9, 1, 2, 0};
        for (int i = 0; i < rules.length; i++) {
            check.due("rule " + i, x.rule(i), rules[i]);
        }
        check.due("tower 0", x.tower(0, 0), 42);
        check.due("tower 0 pipes", x.tower(0, 1), 255);
        check.due("tower 1", x.tower(1, 0), 0);
        check.due("tower 1 pipes", x.tower(1, 1), 0);
        check.due("hill 0", x.hill(0), 36);
        check.due("note 0", x.note(0, 0), 0);
        check.due("note 0", x.note(0, 1), 7);
        check.due("note 2", x.note(2, 0), 60);
        check.due("note 2", x.note(2, 1), 3);
        check.due("towers", x.count(0), 2);
        check.due("hills", x.count(1), 1);
        check.due("notes", x.count(2), 3);
    }

    private static void landInPlaceOfAll() {
        ChurchOrgan x = Check.told("ground 5 5;pace 4;run 4;wind 0 0;tower 1 1 1;hill 2 2;note 3 0;");
        x.blow(0, 0, 0);
        x.noted(3);
        x.keep(0);
        x.keep(1);
        x.sheet(0, 0, 3);
        x.read(0, 0, 1, 1);
        check.due("torn", x.torn(), 2);
        check.due("a faulty text", Check.tell(x, "ground 9 9;pace 1;tower 0 0 256;"), -10 - 28);
        check.due("its fault", x.fault(), 3);
        check.due("the tape is empty", x.count(6), 0);
        check.due("wide stays", x.rule(0), 5);
        check.due("pace stays", x.rule(2), 4);
        check.due("tower stays", x.tower(0, 0), 10);
        check.due("blows stay", x.count(3), 1);
        check.due("noted stays", x.count(4), 1);
        check.due("images stay", x.count(5), 2);
        check.due("an empty text", x.land(), 0);
        check.due("no fault", x.fault(), 0);
        int[] rules = {9, 9, 2, 3, 1, 1};
        for (int i = 0; i < rules.length; i++) {
            check.due("rule as at first " + i, x.rule(i), rules[i]);
        }
        for (int what = 0; what < 6; what++) {
            check.due("gone: count " + what, x.count(what), 0);
        }
        check.due("image 1 is gone", x.back(1), Check.STATE);
        check.due("sheets stay", x.count(7), 3);
        check.due("torn stays", x.torn(), 2);
    }

    private static void fault(String text, int fault, int place) {
        ChurchOrgan x = new ChurchOrgan();
        check.due("land of '" + text + "'", Check.tell(x, text), -10 - place);
        check.due("fault of '" + text + "'", x.fault(), fault);
        check.due("tape after '" + text + "'", x.count(6), 0);
        check.due("towers after '" + text + "'", x.count(0) + x.count(1) + x.count(2), 0);
    }

    private static void lines(String text, int lines) {
        ChurchOrgan x = new ChurchOrgan();
        check.due("land of '" + text + "'", Check.tell(x, text), lines);
        check.due("fault of '" + text + "'", x.fault(), 0);
    }

    private static void tokens() {
        lines("", 0);
        lines("   ", 0);
        lines("pace3;run4;", 2);
        lines("  pace   003  ;run 009;  ", 2);
        lines("tower1 2 3;tower4 5 006;", 2);
        lines("wind 0 2;ground 1 1;tower 0 0 0;", 3);
    }

    private static void faultOne() {
        fault("pace 3,", 1, 6);
        fault("Pace 3;", 1, 0);
        fault("pace\t3;", 1, 4);
        fault("pace 0003;", 1, 5);
        fault("pace 3;1234", 1, 7);
        fault("pace 1234567890123456789012;", 1, 5);
        fault("pace 3;\u00e9", 1, 7);
        fault("run 3;pace 3E;", 1, 12);
        fault("pace -3;", 1, 5);
    }

    private static void faultTwo() {
        fault("paces 3;", 2, 0);
        fault("pac 3;", 2, 0);
        fault("pacE 3;", 2, 0);
        fault("pace run 3;", 2, 5);
        fault("pace ;", 2, 5);
        fault("pace 3 4;", 2, 7);
        fault("pace 3 run 4;", 2, 7);
        fault(";", 2, 0);
        fault("  12;", 2, 2);
        fault("pace", 2, 4);
        fault("pace  ", 2, 6);
        fault("pace 3  ", 2, 8);
        fault("pacerun 3;", 2, 0);
        fault("pace 3;;", 2, 7);
        fault("tower 1 2;", 2, 9);
        fault("ground 1;", 2, 8);
        fault("note 1 ;", 2, 7);
        fault("hill 3", 2, 6);
    }

    private static void faultThree() {
        fault("ground 0 9;", 3, 7);
        fault("ground 10 9;", 3, 7);
        fault("ground 9 0;", 3, 9);
        fault("ground 9 10;", 3, 9);
        fault("pace 0;", 3, 5);
        fault("pace 10;", 3, 5);
        fault("run 0;", 3, 4);
        fault("run 10;", 3, 4);
        fault("wind 3 0;", 3, 5);
        fault("wind 0 3;", 3, 7);
        fault("tower 9 0 0;", 3, 6);
        fault("tower 0 9 0;", 3, 8);
        fault("tower 0 0 256;", 3, 10);
        fault("hill 9 0;", 3, 5);
        fault("hill 0 9;", 3, 7);
        fault("note 61 0;", 3, 5);
        fault("note 0 8;", 3, 7);
        fault("note 7 0;note 6 0;", 3, 14);
        lines("note 7 0;note 7 0;note 60 7;", 3);
    }

    private static void faultFour() {
        fault("ground 9 9;ground 9 9;", 4, 11);
        fault("pace 3; pace 3;", 4, 8);
        fault("run 3;pace 1;run", 4, 13);
        fault("wind 1 1;wind!", 4, 9);
    }

    private static void faultFive() {
        fault("tower 0 0 0;".repeat(6) + " tower x", 5, 73);
        fault("hill 0 0;".repeat(3) + "hill", 5, 27);
        fault("note 0 0;".repeat(12) + "note", 5, 108);
        lines("tower 0 0 0;".repeat(6) + "hill 0 0;".repeat(3) + "note 0 0;".repeat(12), 21);
    }

    private static void faultSix() {
        fault("tower 5 0 0;ground 5 9;", 6, 23);
        fault("ground 9 5;tower 0 5 0;  ", 6, 25);
        fault("ground 5 5;hill 4 4;hill 5 4;", 6, 29);
        fault("ground 5 5;hill 4 5;hill 4 4;", 6, 29);
        fault("ground 5 5;tower 4 4 1;tower 5 4 1;", 6, 35);
        lines("tower 4 4 0;hill 4 4;ground 5 5;", 3);
    }

    private static void firstFaultMet() {
        fault("pace 0!", 3, 5);
        fault("pace 1!", 1, 6);
        fault("ground 3 3;tower 8 8 1;pace 0;", 3, 28);
        fault("pace 10000;", 1, 5);
    }

    /** What stood behind the end is no part of the last TOKEN. */
    private static void cutTokens() {
        ChurchOrgan x = new ChurchOrgan();
        Check.lay(x, "pace 34;");
        x.end(6);
        check.due("a cut number", x.land(), -16);
        check.due("its fault", x.fault(), 2);
        Check.lay(x, "run 3;pacex 3;");
        x.end(10);
        check.due("a cut name", x.land(), -20);
        check.due("its fault", x.fault(), 2);
        Check.lay(x, "pace 3;    run");
        x.end(8);
        check.due("cut between", x.land(), 1);
        x.end(0);
        for (int i = 0; i < 40; i++) {
            x.feed(0x6161616161616161L);
        }
        check.due("a name up to the last byte", x.land(), -10);
        Check.lay(x, " ".repeat(313) + "pace 3;");
        check.due("a full tape", x.land(), 1);
        Check.lay(x, " ".repeat(315) + "pace3");
        check.due("a full tape without its end", x.land(), -330);
        Check.lay(x, "9".repeat(320));
        check.due("a number as long as the tape", x.land(), -10);
        check.due("its fault", x.fault(), 1);
    }

    private static void askedOfTheLand() {
        ChurchOrgan x = Check.told("tower 1 2 3;hill 3 4;note 5 6;");
        check.due("rule -1", x.rule(-1), Check.BAD);
        check.due("rule 6", x.rule(6), Check.BAD);
        check.due("tower -1", x.tower(-1, 0), Check.BAD);
        check.due("tower 1", x.tower(1, 0), Check.BAD);
        check.due("tower what 2", x.tower(0, 2), Check.BAD);
        check.due("tower what -1", x.tower(0, -1), Check.BAD);
        check.due("hill 0", x.hill(0), 39);
        check.due("hill 1", x.hill(1), Check.BAD);
        check.due("hill -1", x.hill(-1), Check.BAD);
        check.due("note 0 0", x.note(0, 0), 5);
        check.due("note 0 1", x.note(0, 1), 6);
        check.due("note 1", x.note(1, 0), Check.BAD);
        check.due("note -1", x.note(-1, 0), Check.BAD);
        check.due("note what 2", x.note(0, 2), Check.BAD);
        check.due("note what -1", x.note(0, -1), Check.BAD);
    }

    private static void wind() {
        ChurchOrgan x = Check.told("wind 2 1;");
        check.due("wind", x.wind(0, 2), 7);
        check.due("wind", x.wind(1, 0), 2);
        check.due("wind BAD", x.wind(3, 0), Check.BAD);
        check.due("wind BAD", x.wind(-1, 0), Check.BAD);
        check.due("wind BAD", x.wind(0, 3), Check.BAD);
        check.due("wind BAD", x.wind(0, -1), Check.BAD);
        check.due("east", x.rule(4), 1);
        check.due("south", x.rule(5), 0);
        check.due("south against", x.takes(0, 36), 12);
        check.due("north", x.takes(36, 0), 8);
    }

    private static void carry() {
        ChurchOrgan x = Check.told("tower 0 0 7;tower 0 0 4;");
        x.blow(0, 1, 0);
        x.blow(0, 1, 2);
        check.due("carry -1", x.carry(-1, 0), Check.BAD);
        check.due("carry 2", x.carry(2, 0), Check.BAD);
        check.due("carry 256", x.carry(0, 256), Check.BAD);
        check.due("carry tones -1", x.carry(0, -1), Check.BAD);
        check.due("carry less", x.carry(0, 6), Check.STATE);
        check.due("it stays", x.tower(0, 1), 7);
        check.due("carry enough", x.carry(0, 5), 7);
        check.due("carry of another", x.carry(1, 0), 4);
        check.due("pipes", x.tower(1, 1), 0);
        check.due("carry all", x.carry(1, 255), 0);
        x.silence();
        check.due("carry none", x.carry(0, 0), 5);
    }

    private static void move() {
        ChurchOrgan x = Check.told("ground 3 4;tower 1 1 1;");
        check.due("move", x.move(0, 29), 10);
        check.due("cell", x.tower(0, 0), 29);
        check.due("move off", x.move(0, 3), Check.BAD);
        check.due("move off", x.move(0, 36), Check.BAD);
        check.due("move off", x.move(0, -1), Check.BAD);
        check.due("move off", x.move(0, 81), Check.BAD);
        check.due("no tower", x.move(1, 0), Check.BAD);
        check.due("no tower", x.move(-1, 0), Check.BAD);
        check.due("cell", x.tower(0, 0), 29);
        x.blow(0, 5, 0);
        check.due("it comes", x.blown(0, 10), 11);
        check.due("move", x.move(0, 0), 29);
        check.due("it comes from there", x.blown(0, 10), 5);
    }
}
