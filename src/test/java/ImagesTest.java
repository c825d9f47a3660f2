/** Promises 35 to 41. */
public final class ImagesTest {
    private static final Check check = new Check();

    public static void main(String[] args) {
        images();
        sheetAndLay();
        readWhole();
        readTorn();
        readRefused();
        readLanes();
        count();
        check.finish();
    }

    private static void images() {
        ChurchOrgan x = Check.told("tower 0 0 3;tower 8 8 1;wind 2 0;note 1 0;");
        check.due("BAD", x.keep(2), Check.BAD);
        check.due("BAD", x.keep(-1), Check.BAD);
        check.due("BAD", x.back(2), Check.BAD);
        check.due("BAD", x.back(-1), Check.BAD);
        check.due("there is none", x.back(0), Check.STATE);
        x.blow(0, 5, 1);
        x.blow(1, 6, 0);
        x.noted(44);
        check.due("keep 0", x.keep(0), 0);
        check.due("images", x.count(5), 1);
        x.move(0, 10);
        x.carry(1, 7);
        x.wind(0, 1);
        x.silence();
        check.due("keep 1", x.keep(1), 0);
        check.due("images", x.count(5), 2);
        x.blow(0, 9, 0);
        check.due("back 0", x.back(0), 2);
        check.due("cell", x.tower(0, 0), 0);
        check.due("pipes", x.tower(1, 1), 1);
        check.due("east", x.rule(4), 2);
        check.due("south", x.rule(5), 0);
        check.due("blow", x.blown(1, 0), 1);
        check.due("blow", x.blown(1, 1), 6);
        check.due("blow", x.blown(0, 2), 1);
        check.due("noted", x.count(4), 1);
        check.due("what is noted", x.watch(1, 2), Check.NONE);
        check.due("images stay", x.count(5), 2);
        x.blow(1, 7, 0);
        x.noted(45);
        check.due("an image is no view", x.back(0), 2);
        check.due("noted", x.count(4), 1);
        check.due("back 1", x.back(1), 0);
        check.due("cell", x.tower(0, 0), 10);
        check.due("pipes", x.tower(1, 1), 7);
        check.due("east", x.rule(4), 0);
        check.due("noted", x.count(4), 0);
        check.due("keep again", x.keep(0), 1);
        check.due("back to that", x.back(0), 0);
    }

    private static void sheetAndLay() {
        ChurchOrgan x = new ChurchOrgan();
        check.due("nothing", x.lay(0, 0, 1), -11);
        check.due("k", x.sheet(4, 0, 1), Check.BAD);
        check.due("k", x.sheet(-1, 0, 1), Check.BAD);
        check.due("lane", x.sheet(0, 3, 1), Check.BAD);
        check.due("lane", x.sheet(0, -1, 1), Check.BAD);
        check.due("n", x.sheet(0, 0, 41), Check.BAD);
        check.due("BAD ahead of SIZE", x.sheet(0, 3, -1), Check.BAD);
        check.due("SIZE", x.sheet(0, 0, -1), -14);
        check.due("still nothing", x.count(7), Check.NONE);
        check.due("no cells", x.sheet(0, 0, 0), 1);
        check.due("no cells", x.count(7), 0);
        check.due("INDEX", x.lay(0, 0, 1), -12);
        check.due("40", x.sheet(0, 2, 40), 1);
        check.due("SIZE changes nothing", x.sheet(0, 0, -5), -14);
        check.due("40", x.count(7), 40);
        check.due("last", x.lay(0, 39, 1), 1);
        check.due("INDEX", x.lay(0, 40, 1), -12);
        check.due("INDEX", x.lay(0, -1, 1), -12);
        check.due("k", x.lay(4, 0, 0), Check.BAD);
        check.due("k", x.lay(-1, 0, 0), Check.BAD);
    }

    private static void row(ChurchOrgan x, int k, int... values) {
        for (int i = 0; i < values.length; i++) {
            x.lay(k, i, values[i]);
        }
    }

    private static ChurchOrgan withSheet(int lane, int n) {
        ChurchOrgan x = Check.told("tower 0 0 3;tower 8 8 1;");
        x.sheet(1, lane, n);
        return x;
    }

    private static void readWhole() {
        ChurchOrgan x = withSheet(2, 40);
        row(x, 1, 9, 0, 5, 1, 1, 200, 0, 0, 7, 0);
        check.due("two", x.read(1, 2, 1, 2), 2);
        check.due("torn", x.torn(), 0);
        check.due("blows", x.count(3), 2);
        check.due("tone", x.blown(0, 2), 1);
        check.due("beat", x.blown(1, 1), 200);
        check.due("tower", x.blown(1, 0), 1);
        check.due("behind", x.read(1, 2, 7, 1), 1);
        check.due("blows", x.count(3), 3);
        check.due("13 from 1 is all of 40", x.sheet(1, 2, 40), 1);
        check.due("13", x.read(1, 2, 1, 13), 13);
        check.due("torn", x.torn(), 0);
        check.due("blows", x.count(3), 16);
        check.due("none", x.read(1, 2, 0, 0), 0);
        check.due("n", x.read(1, 2, 0, 14), Check.BAD);
        check.due("n", x.read(1, 2, 0, -1), Check.BAD);
        check.due("k", x.read(4, 2, 0, 1), Check.BAD);
        check.due("k", x.read(-1, 2, 0, 0), Check.BAD);
        check.due("lane", x.read(1, 3, 0, 1), Check.BAD);
        check.due("lane", x.read(1, -1, 0, 0), Check.BAD);
        x.noted(5);
        x.read(1, 2, 0, 1);
        check.due("noted stays", x.count(4), 1);
    }

    private static void readTorn() {
        ChurchOrgan x = withSheet(1, 8);
        check.due("two whole", x.read(1, 1, 0, 3), 2);
        check.due("INDEX", x.torn(), 2);
        check.due("blows", x.count(3), 2);
        check.due("CAST", x.read(1, 0, 0, 3), 0);
        check.due("CAST", x.torn(), 3);
        check.due("CAST ahead of INDEX", x.read(1, 2, -1, 3), 0);
        check.due("CAST", x.torn(), 3);
        check.due("NULL", x.read(0, 1, 0, 1), 0);
        check.due("NULL", x.torn(), 1);
        check.due("n 0 of nothing", x.read(0, 1, 0, 0), 0);
        check.due("no fault", x.torn(), 0);
        check.due("f below 0", x.read(1, 1, -1, 1), 0);
        check.due("INDEX", x.torn(), 2);
        check.due("n 0 of another lane", x.read(1, 2, 0, 0), 0);
        check.due("no fault", x.torn(), 0);
        check.due("f greatest", x.read(1, 1, Integer.MAX_VALUE, 13), 0);
        check.due("INDEX", x.torn(), 2);
        check.due("n 0 far out", x.read(1, 1, Integer.MAX_VALUE, 0), 0);
        check.due("no fault", x.torn(), 0);
        check.due("f least", x.read(1, 1, Integer.MIN_VALUE, 13), 0);
        check.due("INDEX", x.torn(), 2);
        check.due("refused", x.read(1, 1, 0, 14), Check.BAD);
        check.due("a refused one leaves it", x.torn(), 2);
        check.due("blows", x.count(3), 2);
        check.due("a whole one at the end", x.read(1, 1, 5, 1), 1);
        check.due("no fault", x.torn(), 0);
        check.due("not whole", x.read(1, 1, 6, 1), 0);
        check.due("INDEX", x.torn(), 2);
    }

    private static void readRefused() {
        ChurchOrgan x = withSheet(2, 10);
        x.read(1, 1, 0, 1);
        row(x, 1, 0, 1, 0, 0, 2, 1, 0, 3, 2, 5);
        check.due("no pipe", x.read(1, 2, 0, 3), -22);
        check.due("none came", x.count(3), 0);
        check.due("torn is left", x.torn(), 3);
        check.due("refused ahead of INDEX", x.read(1, 2, 0, 4), -22);
        check.due("INDEX ahead", x.read(1, 2, 8, 2), 0);
        check.due("INDEX", x.torn(), 2);
        x.lay(1, 0, 2);
        check.due("no tower", x.read(1, 2, 0, 3), -20);
        x.lay(1, 0, 1);
        x.lay(1, 4, 201);
        check.due("beat", x.read(1, 2, 0, 2), -21);
        x.lay(1, 4, -1);
        check.due("beat", x.read(1, 2, 0, 2), -21);
        x.lay(1, 4, 0);
        for (int i = 0; i < 23; i++) {
            x.blow(0, i, 0);
        }
        check.due("FULL", x.read(1, 2, 0, 2), -21);
        check.due("none came", x.count(3), 23);
        check.due("the last one", x.read(1, 2, 0, 1), 1);
        check.due("FULL", x.read(1, 2, 0, 1), -20);
        check.due("count", x.count(3), 24);
    }

    private static void readLanes() {
        ChurchOrgan x = withSheet(0, 3);
        row(x, 1, 256, 100, 257);
        check.due("the lowest bits", x.read(1, 0, 0, 1), 1);
        check.due("tower", x.blown(0, 0), 0);
        check.due("tone", x.blown(0, 2), 1);
        x.lay(1, 1, 128);
        check.due("with a sign", x.read(1, 0, 0, 1), -20);
        x.lay(1, 1, -129);
        check.due("with a sign", x.read(1, 0, 0, 1), 1);
        check.due("beat", x.blown(1, 1), 127);
        row(x, 1, 1, 2, 3);
        x.sheet(1, 1, 3);
        check.due("a new row is of 0", x.read(1, 1, 0, 1), 1);
        check.due("tower", x.blown(2, 0), 0);
        check.due("beat", x.blown(2, 1), 0);
        check.due("tone", x.blown(2, 2), 0);
        row(x, 1, 65536, 65536 + 200, 0);
        check.due("shorts", x.read(1, 1, 0, 1), 1);
        check.due("beat", x.blown(3, 1), 200);
        x.lay(1, 1, 40000);
        check.due("shorts have a sign", x.read(1, 1, 0, 1), -20);
        x.sheet(1, 2, 3);
        row(x, 1, 65536, 0, 0);
        check.due("ints keep all", x.read(1, 2, 0, 1), -20);
    }

    private static void count() {
        ChurchOrgan x = Check.told("tower 0 0 1;tower 0 0 1;hill 0 0;note 0 0;note 0 0;note 0 0;");
        for (int i = 0; i < 5; i++) {
            x.blow(0, 0, 0);
        }
        for (int i = 0; i < 4; i++) {
            x.noted(0);
        }
        x.keep(1);
        x.feed(0);
        x.end(7);
        x.sheet(0, 1, 6);
        int[] due = {2, 1, 3, 5, 4, 1, 7, 6};
        for (int what = 0; what < due.length; what++) {
            check.due("count " + what, x.count(what), due[what]);
        }
        check.due("BAD", x.count(8), Check.BAD);
        check.due("BAD", x.count(-1), Check.BAD);
    }
}
