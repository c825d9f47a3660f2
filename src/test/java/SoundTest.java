/** Promises 13 to 18. */
public final class SoundTest {
    private static final Check check = new Check();

    public static void main(String[] args) {
        takes();
        blow();
        silence();
        blown();
        heard();
        span();
        check.finish();
    }

    private static void takes() {
        ChurchOrgan x = Check.told("ground 8 7;pace 3;wind 0 2;");
        // from (1,1) to (4,3): 3 far, 3 east against; south goes with the wind
        check.due("south-east", x.takes(10, 31), 12);
        // back: west with the wind, 2 north against
        check.due("north-west", x.takes(31, 10), 11);
        check.due("to itself", x.takes(31, 31), 0);
        check.due("north-east", x.takes(28, 10 + 3), 3 * 3 + 3 + 2);
        x.wind(1, 1);
        check.due("no wind", x.takes(10, 31), 9);
        check.due("off the ground", x.takes(8, 0), Check.BAD);
        check.due("off the ground", x.takes(0, 8), Check.BAD);
        check.due("off the ground", x.takes(0, 63), Check.BAD);
        check.due("off the ground", x.takes(-1, 0), Check.BAD);
        check.due("the last cell", x.takes(0, 61), 21);
    }

    private static void blow() {
        ChurchOrgan x = Check.told("tower 0 0 129;tower 1 1 0;");
        check.due("tone 0", x.blow(0, 0, 0), 1);
        check.due("tone 7", x.blow(0, 200, 7), 2);
        check.due("no pipe", x.blow(0, 0, 1), Check.STATE);
        check.due("no pipe at all", x.blow(1, 0, 0), Check.STATE);
        check.due("no tower", x.blow(2, 0, 0), Check.BAD);
        check.due("no tower", x.blow(-1, 0, 0), Check.BAD);
        check.due("beat", x.blow(0, -1, 0), Check.BAD);
        check.due("beat", x.blow(0, 201, 0), Check.BAD);
        check.due("tone", x.blow(0, 0, 8), Check.BAD);
        check.due("tone", x.blow(0, 0, -1), Check.BAD);
        check.due("BAD ahead of STATE", x.blow(1, 201, 0), Check.BAD);
        for (int n = 3; n <= 24; n++) {
            check.due("blow " + n, x.blow(0, n, 0), n);
        }
        check.due("FULL", x.blow(0, 0, 0), Check.FULL);
        check.due("STATE ahead of FULL", x.blow(0, 0, 1), Check.STATE);
        check.due("BAD ahead of FULL", x.blow(0, 0, 8), Check.BAD);
        check.due("count", x.count(3), 24);
    }

    private static void silence() {
        ChurchOrgan x = Check.told("tower 0 0 1;");
        check.due("none", x.silence(), 0);
        x.blow(0, 0, 0);
        x.blow(0, 1, 0);
        x.noted(0);
        check.due("two", x.silence(), 2);
        check.due("blows", x.count(3), 0);
        check.due("noted", x.count(4), 0);
        check.due("blown", x.blown(0, 0), Check.BAD);
    }

    private static void blown() {
        ChurchOrgan x = Check.told("ground 5 5;tower 0 0 1;tower 2 3 32;wind 2 1;");
        x.blow(1, 7, 5);
        x.blow(0, 9, 0);
        check.due("tower", x.blown(0, 0), 1);
        check.due("beat", x.blown(0, 1), 7);
        check.due("tone", x.blown(0, 2), 5);
        check.due("comes", x.blown(0, 10), 7 + 6 + 2);
        check.due("comes to its own cell", x.blown(0, 10 + 29), 7);
        check.due("second", x.blown(1, 10 + 4), 17);
        check.due("BAD 3", x.blown(0, 3), Check.BAD);
        check.due("BAD 9", x.blown(0, 9), Check.BAD);
        check.due("BAD -1", x.blown(0, -1), Check.BAD);
        check.due("BAD cell", x.blown(0, 15), Check.BAD);
        check.due("BAD cell", x.blown(0, 91), Check.BAD);
        check.due("BAD blow", x.blown(2, 0), Check.BAD);
        check.due("BAD blow", x.blown(-1, 0), Check.BAD);
        check.due("BAD far", x.blown(0, Integer.MAX_VALUE), Check.BAD);
        check.due("BAD far", x.blown(0, Integer.MIN_VALUE), Check.BAD);
    }

    private static void heard() {
        ChurchOrgan x = Check.told("tower 0 0 3;tower 4 0 4;hill 0 4;hill 0 4;");
        x.blow(0, 0, 0);
        x.blow(0, 0, 1);
        x.blow(1, 0, 2);
        check.due("straight", x.heard(0, 0, false), 3);
        check.due("straight", x.heard(0, 8, false), 4);
        check.due("nothing", x.heard(0, 16, false), 0);
        check.due("echo", x.heard(0, 16, true), 7);
        check.due("straight with echoes", x.heard(0, 8, true), 4);
        check.due("one by hill at the hill", x.heard(36, 8, false), 7);
        check.due("beat 999", x.heard(0, 999, true), 0);
        check.due("beat 1000", x.heard(0, 1000, true), Check.BAD);
        check.due("beat -1", x.heard(0, -1, true), Check.BAD);
        check.due("cell", x.heard(81, 0, true), Check.BAD);
        check.due("cell", x.heard(-1, 0, true), Check.BAD);
    }

    private static void span() {
        ChurchOrgan x = Check.told("tower 0 0 1;tower 4 0 1;hill 8 8;hill 4 4;");
        check.due("nothing", x.span(0, 0), Check.NONE);
        check.due("nothing", x.span(0, 1), Check.NONE);
        check.due("nothing", x.span(0, 2), 0);
        x.blow(1, 10, 0);
        x.blow(0, 30, 0);
        check.due("first", x.span(0, 0), 18);
        check.due("last", x.span(0, 1), 30 + 16 + 16);
        check.due("many", x.span(0, 2), 6);
        check.due("cell", x.span(81, 2), Check.BAD);
        check.due("what", x.span(0, 3), Check.BAD);
        check.due("what", x.span(0, -1), Check.BAD);
        ChurchOrgan y = Check.told("tower 0 0 1;");
        y.blow(0, 10, 0);
        check.due("no hills: first", y.span(4, 0), 18);
        check.due("no hills: last", y.span(4, 1), 18);
        check.due("no hills: many", y.span(4, 2), 1);
    }
}
