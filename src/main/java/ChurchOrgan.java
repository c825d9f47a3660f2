/** An organ in nine churches. What every call answers is told by the document, promise by promise. */
public final class ChurchOrgan {
    public static final int BAD = -1, STATE = -2, FULL = -3, NONE = -4;

    private static final int SIDE = 9;
    private static final int CELLS = 81;
    private static final int RULES = 6;
    private static final int MOST_BYTES = 320;
    private static final int MOST_TOWERS = 6;
    private static final int MOST_HILLS = 3;
    private static final int MOST_NOTES = 12;
    private static final int MOST_BLOWS = 24;
    private static final int TONES = 8;
    private static final int ALL_PIPES = 255;
    private static final int LAST_BEAT = 200;
    private static final int LAST_HEARD = 999;
    private static final int LAST_NOTED = 400;
    private static final int MOST_OFF = 99;
    private static final int MOST_LAG = 99;
    private static final int MOST_WRONG = 20;
    private static final int IMAGES = 2;
    private static final int SHEETS = 4;
    private static final int LANES = 3;
    private static final int MOST_ROW = 40;
    private static final int MOST_READ = 13;
    private static final int CELLS_OF_BLOW = 3;
    // more than any number of BEATS or PIPES that can be met
    private static final int BEYOND_ALL = 1000000;

    private static final int WIDE = 0, HIGH = 1, PACE = 2, RUN = 3, EAST = 4, SOUTH = 5;

    private static final int NULL_FAULT = 1, INDEX_FAULT = 2, CAST_FAULT = 3, SIZE_FAULT = 4;

    private final Tape tape = new Tape();
    private final Teller teller = new Teller();
    private final Blows blows = new Blows();
    private final Crew crew = new Crew();
    private final Image[] images = new Image[IMAGES];
    private final Sheet[] sheets = new Sheet[SHEETS];
    private final int[] lags = new int[MOST_TOWERS];
    private final int[] chosen = new int[MOST_NOTES];
    private Land told = new Land();
    private Land draft = new Land();
    private int landFault;
    private int readFault;

    public ChurchOrgan() {
        for (int k = 0; k < IMAGES; k++) {
            images[k] = new Image();
        }
        for (int k = 0; k < SHEETS; k++) {
            sheets[k] = new Sheet();
        }
    }

    // ---- the text

    public int feed(long v) {
        return tape.put(v) ? tape.length : FULL;
    }

    public int end(int n) {
        int had = tape.length;
        if (n < 0 || n > had) {
            return BAD;
        }
        tape.length = n;
        return had;
    }

    public int land() {
        draft.clear();
        int lines = teller.tell(tape, draft);
        tape.length = 0;
        landFault = teller.fault;
        if (landFault != 0) {
            return lines;
        }
        // the old land becomes the next draft, so that no call makes a new one
        Land old = told;
        told = draft;
        draft = old;
        blows.clear();
        for (int k = 0; k < IMAGES; k++) {
            images[k].kept = false;
        }
        return lines;
    }

    public int fault() {
        return landFault;
    }

    public int rule(int what) {
        return isWithin(what, RULES) ? told.rules[what] : BAD;
    }

    public int tower(int t, int what) {
        if (!told.hasTower(t) || !isWithin(what, 2)) {
            return BAD;
        }
        return what == 0 ? told.towerCells[t] : told.towerPipes[t];
    }

    public int hill(int h) {
        return isWithin(h, told.hills) ? told.hillCells[h] : BAD;
    }

    public int note(int i, int what) {
        if (!isWithin(i, told.notes) || !isWithin(what, 2)) {
            return BAD;
        }
        return what == 0 ? told.noteBeats[i] : told.noteTones[i];
    }

    public int wind(int east, int south) {
        if (!isWithin(east, 3) || !isWithin(south, 3)) {
            return BAD;
        }
        int before = 3 * told.rules[EAST] + told.rules[SOUTH];
        told.rules[EAST] = east;
        told.rules[SOUTH] = south;
        return before;
    }

    public int carry(int t, int tones) {
        if (!told.hasTower(t) || tones < 0 || tones > ALL_PIPES) {
            return BAD;
        }
        if ((blows.tonesOf(t) & ~tones) != 0) {
            return STATE;
        }
        int before = told.towerPipes[t];
        told.towerPipes[t] = tones;
        return before;
    }

    public int move(int t, int cell) {
        if (!told.hasTower(t) || !told.hasCell(cell)) {
            return BAD;
        }
        int before = told.towerCells[t];
        told.towerCells[t] = cell;
        return before;
    }

    // ---- sound, blows

    public int takes(int from, int to) {
        return told.hasCell(from) && told.hasCell(to) ? told.sound(from, to) : BAD;
    }

    public int blow(int t, int beat, int tone) {
        if (!told.hasTower(t) || beat < 0 || beat > LAST_BEAT || !isWithin(tone, TONES)) {
            return BAD;
        }
        if (!told.hasPipe(t, tone)) {
            return STATE;
        }
        return blows.add(t, beat, tone) ? blows.count : FULL;
    }

    public int silence() {
        int were = blows.count;
        blows.clear();
        return were;
    }

    public int blown(int i, int what) {
        if (!isWithin(i, blows.count)) {
            return BAD;
        }
        switch (what) {
            case 0:
                return blows.towers[i];
            case 1:
                return blows.beats[i];
            case 2:
                return blows.tones[i];
            default:
                return what >= 10 && told.hasCell(what - 10) ? comes(i, what - 10) : BAD;
        }
    }

    public int heard(int cell, int beat, boolean echoes) {
        if (!told.hasCell(cell) || beat < 0 || beat > LAST_HEARD) {
            return BAD;
        }
        int ways = echoes ? told.hills : 0;
        int tones = 0;
        for (int i = 0; i < blows.count; i++) {
            for (int way = 0; way <= ways; way++) {
                if (comesBy(way, i, cell) == beat) {
                    tones |= 1 << blows.tones[i];
                }
            }
        }
        return tones;
    }

    public int span(int cell, int what) {
        if (!told.hasCell(cell) || !isWithin(what, 3)) {
            return BAD;
        }
        if (what == 2) {
            return blows.count * (1 + told.hills);
        }
        return blows.count == 0 ? NONE : edge(cell, what == 1);
    }

    // ---- the psalm

    public int plays(int cell) {
        if (!told.hasCell(cell)) {
            return BAD;
        }
        if (told.notes == 0) {
            return STATE;
        }
        for (int i = 0; i < told.notes; i++) {
            chosen[i] = soonestTower(told.noteTones[i], cell);
            if (chosen[i] < 0) {
                return NONE;
            }
        }
        return blowChosen(cell);
    }

    public int right(int cell) {
        if (!told.hasCell(cell)) {
            return BAD;
        }
        if (told.notes == 0) {
            return STATE;
        }
        return isRight(cell) ? 1000 + offset(cell) : NONE;
    }

    public int rights(int what) {
        if (!isWithin(what, 2)) {
            return BAD;
        }
        if (told.notes == 0) {
            return STATE;
        }
        int many = 0;
        for (int cell = 0; cell < CELLS; cell++) {
            if (told.hasCell(cell) && isRight(cell)) {
                if (what == 1) {
                    return cell;
                }
                many++;
            }
        }
        return what == 0 ? many : NONE;
    }

    public int off(int cell) {
        if (!told.hasCell(cell)) {
            return BAD;
        }
        return blowsAreAsNotes() ? offBy(cell) : STATE;
    }

    public int near(int n, int what) {
        if (n < 0 || n > MOST_OFF || !isWithin(what, 3)) {
            return BAD;
        }
        if (!blowsAreAsNotes()) {
            return STATE;
        }
        int many = 0;
        int first = 0;
        int least = BEYOND_ALL;
        for (int cell = 0; cell < CELLS; cell++) {
            if (told.hasCell(cell)) {
                int by = offBy(cell);
                if (by <= n) {
                    many++;
                }
                if (by < least) {
                    least = by;
                    first = cell;
                }
            }
        }
        if (what == 0) {
            return many;
        }
        return what == 1 ? least : first;
    }

    public int twice(int a, int b, int what) {
        boolean asksNote = what >= 10 && what - 10 < told.notes;
        if (!told.hasCell(a) || !told.hasCell(b) || !(isWithin(what, 3) || asksNote)) {
            return BAD;
        }
        if (told.notes == 0) {
            return STATE;
        }
        measureLags(a, b);
        int many = 0;
        int least = 0;
        int greatest = 0;
        for (int t = 0; t < told.towers; t++) {
            if (isFirstOfLag(t) && lagCanBe(lags[t])) {
                least = many == 0 ? lags[t] : Math.min(least, lags[t]);
                greatest = many == 0 ? lags[t] : Math.max(greatest, lags[t]);
                many++;
            }
        }
        if (what == 0) {
            return many;
        }
        if (many == 0) {
            return NONE;
        }
        if (asksNote) {
            return towerOfLag(told.noteTones[what - 10], least);
        }
        return 1000 + (what == 1 ? least : greatest);
    }

    public int both(int a, int b, int lag) {
        if (!told.hasCell(a) || !told.hasCell(b) || lag < -MOST_LAG || lag > MOST_LAG) {
            return BAD;
        }
        if (told.notes == 0) {
            return STATE;
        }
        measureLags(a, b);
        for (int i = 0; i < told.notes; i++) {
            chosen[i] = towerOfLag(told.noteTones[i], lag);
            if (chosen[i] < 0) {
                return NONE;
            }
        }
        return blowChosen(a);
    }

    // ---- towers, pipes, men

    public int fewest(int what) {
        if (!isWithin(what, 2)) {
            return BAD;
        }
        int needed = told.psalmTones();
        int best = NONE;
        for (int set = 0; set < 1 << told.towers; set++) {
            boolean fewer = best < 0 || Integer.bitCount(set) < Integer.bitCount(best);
            if (fewer && (needed & ~told.pipesOfSet(set)) == 0) {
                best = set;
            }
        }
        return what == 1 || best < 0 ? best : Integer.bitCount(best);
    }

    public int pipes(int what) {
        if (!isWithin(what, 4)) {
            return BAD;
        }
        int together = what < 2 ? 1 : 2;
        int needed = told.psalmTones();
        int best = 0;
        int least = BEYOND_ALL;
        for (int set = 0; set < 1 << told.towers; set++) {
            if (Integer.bitCount(set) == together) {
                int lacking = Integer.bitCount(needed & ~told.pipesOfSet(set));
                if (lacking < least) {
                    least = lacking;
                    best = set;
                }
            }
        }
        if (best == 0) {
            return NONE;
        }
        if (what == 3) {
            return best;
        }
        // the set of one TOWER t is the bit t: below it there are t bits
        return what == 1 ? Integer.bitCount(best - 1) : least;
    }

    public int men() {
        crew.begin(blows.count);
        for (int i = 0; i < blows.count; i++) {
            for (int j = 0; j < blows.count; j++) {
                if (canRun(i, j)) {
                    crew.allow(i, j);
                }
            }
        }
        return crew.least();
    }

    public int runs(int i, int j) {
        if (!isWithin(i, blows.count) || !isWithin(j, blows.count) || i == j) {
            return BAD;
        }
        return canRun(i, j) ? 1 : 0;
    }

    // ---- watches, one who is lost

    public int noted(int beat) {
        if (beat < 0 || beat > LAST_NOTED) {
            return BAD;
        }
        if (blows.marks >= blows.count) {
            return STATE;
        }
        blows.markBeats[blows.marks] = beat;
        blows.marks++;
        return blows.marks;
    }

    public int forget() {
        int were = blows.marks;
        blows.marks = 0;
        return were;
    }

    public int watch(int cell, int what) {
        if (!told.hasCell(cell) || !isWithin(what, 3)) {
            return BAD;
        }
        if (blows.marks == 0) {
            return STATE;
        }
        int ways = 0;
        for (int t = 0; t < told.towers; t++) {
            int wrong = wrongBy(t, cell);
            if (wrong != 0) {
                if (what != 0) {
                    return what == 1 ? t : 100 + wrong;
                }
                ways++;
            }
        }
        return what == 0 ? ways : NONE;
    }

    public int lost(int what) {
        if (!isWithin(what, 2)) {
            return BAD;
        }
        if (blows.marks == 0) {
            return STATE;
        }
        int many = 0;
        for (int cell = 0; cell < CELLS; cell++) {
            if (told.hasCell(cell) && couldBeAt(cell)) {
                if (what == 1) {
                    return cell;
                }
                many++;
            }
        }
        return what == 0 ? many : NONE;
    }

    public int fits(int cell) {
        if (!told.hasCell(cell)) {
            return BAD;
        }
        if (blows.marks == 0) {
            return STATE;
        }
        int many = 0;
        for (int i = 0; i < blows.marks; i++) {
            if (lateness(i, cell) == 0) {
                many++;
            }
        }
        return many;
    }

    // ---- images, sheets

    public int keep(int k) {
        if (!isWithin(k, IMAGES)) {
            return BAD;
        }
        boolean was = images[k].kept;
        images[k].take(told, blows);
        return was ? 1 : 0;
    }

    public int back(int k) {
        if (!isWithin(k, IMAGES)) {
            return BAD;
        }
        if (!images[k].kept) {
            return STATE;
        }
        images[k].give(told, blows);
        return blows.count;
    }

    public int sheet(int k, int lane, int n) {
        if (!isWithin(k, SHEETS) || !isWithin(lane, LANES) || n > MOST_ROW) {
            return BAD;
        }
        if (n < 0) {
            return -10 - SIZE_FAULT;
        }
        sheets[k].renew(lane, n);
        return 1;
    }

    public int lay(int k, int i, int v) {
        if (!isWithin(k, SHEETS)) {
            return BAD;
        }
        Sheet row = sheets[k];
        if (row.isNothing()) {
            return -10 - NULL_FAULT;
        }
        if (!isWithin(i, row.size)) {
            return -10 - INDEX_FAULT;
        }
        row.put(i, v);
        return 1;
    }

    public int read(int k, int lane, int f, int n) {
        if (!isWithin(k, SHEETS) || !isWithin(lane, LANES) || n < 0 || n > MOST_READ) {
            return BAD;
        }
        Sheet row = sheets[k];
        int before = blows.count;
        int found = n == 0 ? 0 : row.faultAs(lane);
        if (found != 0) {
            readFault = found;
            return 0;
        }
        for (int i = 0; i < n; i++) {
            int at = f + CELLS_OF_BLOW * i;
            if (!row.hasBlowAt(at)) {
                readFault = INDEX_FAULT;
                return i;
            }
            if (blow(row.cells[at], row.cells[at + 1], row.cells[at + 2]) < 0) {
                blows.count = before;
                return -20 - i;
            }
        }
        readFault = 0;
        return n;
    }

    public int torn() {
        return readFault;
    }

    public int count(int what) {
        switch (what) {
            case 0:
                return told.towers;
            case 1:
                return told.hills;
            case 2:
                return told.notes;
            case 3:
                return blows.count;
            case 4:
                return blows.marks;
            case 5:
                return (images[0].kept ? 1 : 0) + (images[1].kept ? 1 : 0);
            case 6:
                return tape.length;
            case 7:
                return sheets[0].isNothing() ? NONE : sheets[0].size;
            default:
                return BAD;
        }
    }

    // ---- what the calls share

    private static boolean isWithin(int i, int many) {
        return i >= 0 && i < many;
    }

    private int comes(int i, int cell) {
        return blows.beats[i] + told.sound(told.towerCells[blows.towers[i]], cell);
    }

    /** Way 0 is straight, way h + 1 is by HILL h. */
    private int comesBy(int way, int i, int cell) {
        if (way == 0) {
            return comes(i, cell);
        }
        int hillCell = told.hillCells[way - 1];
        return comes(i, hillCell) + told.sound(hillCell, cell);
    }

    private int edge(int cell, boolean last) {
        int found = comes(0, cell);
        for (int i = 0; i < blows.count; i++) {
            for (int way = 0; way <= told.hills; way++) {
                int when = comesBy(way, i, cell);
                found = last ? Math.max(found, when) : Math.min(found, when);
            }
        }
        return found;
    }

    private int soonestTower(int tone, int cell) {
        int best = NONE;
        int least = BEYOND_ALL;
        for (int t = 0; t < told.towers; t++) {
            if (told.hasPipe(t, tone) && told.soundOf(t, cell) < least) {
                least = told.soundOf(t, cell);
                best = t;
            }
        }
        return best;
    }

    private int blowChosen(int cell) {
        int later = 0;
        for (int i = 0; i < told.notes; i++) {
            later = Math.max(later, told.soundOf(chosen[i], cell) - told.noteBeats[i]);
        }
        // NOTED goes with the BLOWS that it was told of
        blows.clear();
        for (int i = 0; i < told.notes; i++) {
            int beat = told.noteBeats[i] + later - told.soundOf(chosen[i], cell);
            blows.add(chosen[i], beat, told.noteTones[i]);
        }
        return later;
    }

    /** The first that COMES must be a first NOTE: no other OFFSET can be. */
    private int offset(int cell) {
        int first = BEYOND_ALL;
        for (int i = 0; i < blows.count; i++) {
            first = Math.min(first, comes(i, cell));
        }
        return first - told.noteBeats[0];
    }

    private boolean isRight(int cell) {
        if (blows.count != told.notes) {
            return false;
        }
        int later = offset(cell);
        int taken = 0;
        for (int i = 0; i < blows.count; i++) {
            int note = freeNote(taken, comes(i, cell) - later, blows.tones[i]);
            if (note < 0) {
                return false;
            }
            taken |= 1 << note;
        }
        return true;
    }

    private int freeNote(int taken, int beat, int tone) {
        for (int i = 0; i < told.notes; i++) {
            boolean free = (taken >> i & 1) == 0;
            if (free && told.noteBeats[i] == beat && told.noteTones[i] == tone) {
                return i;
            }
        }
        return NONE;
    }

    private boolean blowsAreAsNotes() {
        if (told.notes == 0 || blows.count != told.notes) {
            return false;
        }
        for (int i = 0; i < told.notes; i++) {
            if (blows.tones[i] != told.noteTones[i]) {
                return false;
            }
        }
        return true;
    }

    private int offBy(int cell) {
        int least = BEYOND_ALL;
        int greatest = -BEYOND_ALL;
        for (int i = 0; i < told.notes; i++) {
            int later = comes(i, cell) - told.noteBeats[i];
            least = Math.min(least, later);
            greatest = Math.max(greatest, later);
        }
        return greatest - least;
    }

    private void measureLags(int a, int b) {
        for (int t = 0; t < told.towers; t++) {
            lags[t] = told.soundOf(t, b) - told.soundOf(t, a);
        }
    }

    private boolean isFirstOfLag(int t) {
        for (int before = 0; before < t; before++) {
            if (lags[before] == lags[t]) {
                return false;
            }
        }
        return true;
    }

    private boolean lagCanBe(int lag) {
        int has = 0;
        for (int t = 0; t < told.towers; t++) {
            if (lags[t] == lag) {
                has |= told.towerPipes[t];
            }
        }
        return (told.psalmTones() & ~has) == 0;
    }

    private int towerOfLag(int tone, int lag) {
        for (int t = 0; t < told.towers; t++) {
            if (lags[t] == lag && told.hasPipe(t, tone)) {
                return t;
            }
        }
        return NONE;
    }

    private boolean canRun(int i, int j) {
        int far = Land.howFar(told.towerCells[blows.towers[i]], told.towerCells[blows.towers[j]]);
        return blows.beats[j] - blows.beats[i] >= Math.max(1, told.rules[RUN] * far);
    }

    /** How much later than it COMES to the CELL BLOW i was NOTED. */
    private int lateness(int i, int cell) {
        return blows.markBeats[i] - comes(i, cell);
    }

    /** By how much the WATCH of the TOWER alone would make all NOTED; 0: it can not. */
    private int wrongBy(int t, int cell) {
        int wrong = 0;
        for (int i = 0; i < blows.marks; i++) {
            int late = lateness(i, cell);
            if (blows.towers[i] != t) {
                if (late != 0) {
                    return 0;
                }
            } else if (late == 0 || Math.abs(late) > MOST_WRONG || (wrong != 0 && wrong != late)) {
                return 0;
            } else {
                wrong = late;
            }
        }
        return wrong;
    }

    private boolean couldBeAt(int cell) {
        int late = lateness(0, cell);
        for (int i = 1; i < blows.marks; i++) {
            if (lateness(i, cell) != late) {
                return false;
            }
        }
        return true;
    }

    /** What a text tells: the GROUND, what stands on it, THE PSALM, the RULES. */
    private static final class Land {
        final int[] rules = new int[RULES];
        final int[] towerCells = new int[MOST_TOWERS];
        final int[] towerPipes = new int[MOST_TOWERS];
        final int[] hillCells = new int[MOST_HILLS];
        final int[] noteBeats = new int[MOST_NOTES];
        final int[] noteTones = new int[MOST_NOTES];
        int towers;
        int hills;
        int notes;

        Land() {
            clear();
        }

        void clear() {
            rules[WIDE] = SIDE;
            rules[HIGH] = SIDE;
            rules[PACE] = 2;
            rules[RUN] = 3;
            rules[EAST] = 1;
            rules[SOUTH] = 1;
            towers = 0;
            hills = 0;
            notes = 0;
        }

        boolean hasCell(int cell) {
            return isWithin(cell, CELLS) && cell % SIDE < rules[WIDE] && cell / SIDE < rules[HIGH];
        }

        boolean hasTower(int t) {
            return isWithin(t, towers);
        }

        boolean hasPipe(int t, int tone) {
            return (towerPipes[t] >> tone & 1) != 0;
        }

        boolean standsOnCells() {
            for (int t = 0; t < towers; t++) {
                if (!hasCell(towerCells[t])) {
                    return false;
                }
            }
            for (int h = 0; h < hills; h++) {
                if (!hasCell(hillCells[h])) {
                    return false;
                }
            }
            return true;
        }

        static int howFar(int a, int b) {
            return Math.max(Math.abs(a % SIDE - b % SIDE), Math.abs(a / SIDE - b / SIDE));
        }

        int sound(int from, int to) {
            int against = against(to % SIDE - from % SIDE, rules[EAST])
                + against(to / SIDE - from / SIDE, rules[SOUTH]);
            return rules[PACE] * howFar(from, to) + against;
        }

        int soundOf(int t, int cell) {
            return sound(towerCells[t], cell);
        }

        private static int against(int way, int windTold) {
            return Math.max(0, way * (1 - windTold));
        }

        int psalmTones() {
            int tones = 0;
            for (int i = 0; i < notes; i++) {
                tones |= 1 << noteTones[i];
            }
            return tones;
        }

        int pipesOfSet(int set) {
            int has = 0;
            for (int t = 0; t < towers; t++) {
                if ((set >> t & 1) != 0) {
                    has |= towerPipes[t];
                }
            }
            return has;
        }

        int latestBeat() {
            return notes == 0 ? 0 : noteBeats[notes - 1];
        }

        void addTower(int x, int y, int has) {
            if (towers < MOST_TOWERS) {
                towerCells[towers] = SIDE * y + x;
                towerPipes[towers] = has;
                towers++;
            }
        }

        void addHill(int x, int y) {
            if (hills < MOST_HILLS) {
                hillCells[hills] = SIDE * y + x;
                hills++;
            }
        }

        void addNote(int beat, int tone) {
            if (notes < MOST_NOTES) {
                noteBeats[notes] = beat;
                noteTones[notes] = tone;
                notes++;
            }
        }
    }

    /** THE TAPE, and the TOKEN of it that was read latest. */
    private static final class Tape {
        static final int NO_TOKEN = 0, NAME = 1, NUMBER = 2, SIGN = 3, AT_END = 4;
        private static final int LONGEST_NUMBER = 3;

        private final byte[] bytes = new byte[MOST_BYTES];
        private int next;
        int length;
        int kind;
        int start;
        int value;

        boolean put(long v) {
            if (length + 8 > MOST_BYTES) {
                return false;
            }
            for (int shift = 56; shift >= 0; shift -= 8) {
                bytes[length] = (byte) (v >> shift);
                length++;
            }
            return true;
        }

        void rewind() {
            next = 0;
        }

        void readToken() {
            while (next < length && bytes[next] == ' ') {
                next++;
            }
            start = next;
            if (next >= length) {
                kind = AT_END;
            } else if (isLetter(bytes[next])) {
                readName();
            } else if (isFigure(bytes[next])) {
                readNumber();
            } else {
                kind = bytes[next] == ';' ? SIGN : NO_TOKEN;
                next++;
            }
        }

        private void readName() {
            kind = NAME;
            while (next < length && isLetter(bytes[next])) {
                next++;
            }
        }

        private void readNumber() {
            value = 0;
            while (next < length && isFigure(bytes[next])) {
                value = 10 * value + bytes[next] - '0';
                next++;
            }
            kind = next - start > LONGEST_NUMBER ? NO_TOKEN : NUMBER;
        }

        boolean nameIs(String word) {
            if (kind != NAME || next - start != word.length()) {
                return false;
            }
            for (int i = 0; i < word.length(); i++) {
                if (bytes[start + i] != word.charAt(i)) {
                    return false;
                }
            }
            return true;
        }

        private static boolean isLetter(int sign) {
            return sign >= 'a' && sign <= 'z';
        }

        private static boolean isFigure(int sign) {
            return sign >= '0' && sign <= '9';
        }
    }

    /** Reads a land from THE TAPE, line by line, up to its first FAULT. */
    private static final class Teller {
        private static final int GROUND_LINE = 0, PACE_LINE = 1, RUN_LINE = 2, WIND_LINE = 3;
        private static final int TOWER_LINE = 4, HILL_LINE = 5, NOTE_LINE = 6;
        private static final int LINES = 7;
        private static final int MOST_NUMBERS = 3;
        private static final int[] NUMBERS = {2, 1, 1, 2, 3, 2, 2};
        // MOST_NUMBERS places for each kind of line
        private static final int[] LEAST = {1, 1, 0, 1, 0, 0, 1, 0, 0, 0, 0, 0, 0, 0, 0, 0, 0, 0, 0, 0, 0};
        private static final int[] GREATEST = {9, 9, 0, 9, 0, 0, 9, 0, 0, 2, 2, 0, 8, 8, 255, 8, 8, 0, 60, 7, 0};

        private final int[] given = new int[MOST_NUMBERS];
        private int seen;
        private int place;
        int fault;

        int tell(Tape tape, Land land) {
            fault = 0;
            seen = 0;
            tape.rewind();
            // no line is shorter than a byte: the bound is never met
            for (int lines = 0; lines <= MOST_BYTES; lines++) {
                tape.readToken();
                if (tape.kind == Tape.AT_END) {
                    return land.standsOnCells() ? lines : refuse(6, tape.length);
                }
                if (!tellLine(tape, land)) {
                    return -10 - place;
                }
            }
            return refuse(2, tape.length);
        }

        private int refuse(int what, int where) {
            fault = what;
            place = where;
            return -10 - place;
        }

        private boolean tellLine(Tape tape, Land land) {
            int line = lineOfName(tape);
            if (line < 0) {
                return misplaced(tape);
            }
            if ((seen >> line & 1) != 0) {
                refuse(4, tape.start);
                return false;
            }
            if (isFull(line, land)) {
                refuse(5, tape.start);
                return false;
            }
            for (int i = 0; i < NUMBERS[line]; i++) {
                if (!takeNumber(tape, land, line, i)) {
                    return false;
                }
            }
            tape.readToken();
            if (tape.kind != Tape.SIGN) {
                return misplaced(tape);
            }
            if (line <= WIND_LINE) {
                seen |= 1 << line;
            }
            write(land, line);
            return true;
        }

        private boolean misplaced(Tape tape) {
            refuse(tape.kind == Tape.NO_TOKEN ? 1 : 2, tape.start);
            return false;
        }

        private static int lineOfName(Tape tape) {
            for (int line = 0; line < LINES; line++) {
                if (tape.nameIs(nameOf(line))) {
                    return line;
                }
            }
            return NONE;
        }

        private static String nameOf(int line) {
            switch (line) {
                case GROUND_LINE:
                    return "ground";
                case PACE_LINE:
                    return "pace";
                case RUN_LINE:
                    return "run";
                case WIND_LINE:
                    return "wind";
                case TOWER_LINE:
                    return "tower";
                case HILL_LINE:
                    return "hill";
                default:
                    return "note";
            }
        }

        private static boolean isFull(int line, Land land) {
            switch (line) {
                case TOWER_LINE:
                    return land.towers >= MOST_TOWERS;
                case HILL_LINE:
                    return land.hills >= MOST_HILLS;
                case NOTE_LINE:
                    return land.notes >= MOST_NOTES;
                default:
                    return false;
            }
        }

        private boolean takeNumber(Tape tape, Land land, int line, int i) {
            tape.readToken();
            if (tape.kind != Tape.NUMBER) {
                return misplaced(tape);
            }
            boolean isBeat = line == NOTE_LINE && i == 0;
            int least = isBeat ? land.latestBeat() : LEAST[MOST_NUMBERS * line + i];
            if (tape.value < least || tape.value > GREATEST[MOST_NUMBERS * line + i]) {
                refuse(3, tape.start);
                return false;
            }
            given[i] = tape.value;
            return true;
        }

        private void write(Land land, int line) {
            switch (line) {
                case GROUND_LINE:
                    land.rules[WIDE] = given[0];
                    land.rules[HIGH] = given[1];
                    break;
                case PACE_LINE:
                    land.rules[PACE] = given[0];
                    break;
                case RUN_LINE:
                    land.rules[RUN] = given[0];
                    break;
                case WIND_LINE:
                    land.rules[EAST] = given[0];
                    land.rules[SOUTH] = given[1];
                    break;
                case TOWER_LINE:
                    land.addTower(given[0], given[1], given[2]);
                    break;
                case HILL_LINE:
                    land.addHill(given[0], given[1]);
                    break;
                default:
                    land.addNote(given[0], given[1]);
                    break;
            }
        }
    }

    /** BLOWS by order, and what is NOTED of the first of them. */
    private static final class Blows {
        final int[] towers = new int[MOST_BLOWS];
        final int[] beats = new int[MOST_BLOWS];
        final int[] tones = new int[MOST_BLOWS];
        final int[] markBeats = new int[MOST_BLOWS];
        int count;
        int marks;

        void clear() {
            count = 0;
            marks = 0;
        }

        boolean add(int t, int beat, int tone) {
            if (count >= MOST_BLOWS) {
                return false;
            }
            towers[count] = t;
            beats[count] = beat;
            tones[count] = tone;
            count++;
            return true;
        }

        int tonesOf(int t) {
            int blown = 0;
            for (int i = 0; i < count; i++) {
                if (towers[i] == t) {
                    blown |= 1 << tones[i];
                }
            }
            return blown;
        }

        void copyFrom(Blows other) {
            System.arraycopy(other.towers, 0, towers, 0, MOST_BLOWS);
            System.arraycopy(other.beats, 0, beats, 0, MOST_BLOWS);
            System.arraycopy(other.tones, 0, tones, 0, MOST_BLOWS);
            System.arraycopy(other.markBeats, 0, markBeats, 0, MOST_BLOWS);
            count = other.count;
            marks = other.marks;
        }
    }

    /** An IMAGE: the part of a land that calls change, and BLOWS. */
    private static final class Image {
        private final int[] cells = new int[MOST_TOWERS];
        private final int[] pipesHad = new int[MOST_TOWERS];
        private final Blows blows = new Blows();
        private int east;
        private int south;
        boolean kept;

        void take(Land land, Blows now) {
            System.arraycopy(land.towerCells, 0, cells, 0, MOST_TOWERS);
            System.arraycopy(land.towerPipes, 0, pipesHad, 0, MOST_TOWERS);
            east = land.rules[EAST];
            south = land.rules[SOUTH];
            blows.copyFrom(now);
            kept = true;
        }

        void give(Land land, Blows now) {
            System.arraycopy(cells, 0, land.towerCells, 0, MOST_TOWERS);
            System.arraycopy(pipesHad, 0, land.towerPipes, 0, MOST_TOWERS);
            land.rules[EAST] = east;
            land.rules[SOUTH] = south;
            now.copyFrom(blows);
        }
    }

    /** A SHEET. Its row is made once for all lanes; each value is kept as its lane would hold it. */
    private static final class Sheet {
        private static final int NO_LANE = -1, BYTES = 0, SHORTS = 1;

        final int[] cells = new int[MOST_ROW];
        private int lane = NO_LANE;
        int size;

        boolean isNothing() {
            return lane == NO_LANE;
        }

        void renew(int newLane, int n) {
            lane = newLane;
            size = n;
            for (int i = 0; i < MOST_ROW; i++) {
                cells[i] = 0;
            }
        }

        void put(int i, int v) {
            if (lane == BYTES) {
                cells[i] = (byte) v;
            } else if (lane == SHORTS) {
                cells[i] = (short) v;
            } else {
                cells[i] = v;
            }
        }

        int faultAs(int asked) {
            if (isNothing()) {
                return NULL_FAULT;
            }
            return lane == asked ? 0 : CAST_FAULT;
        }

        boolean hasBlowAt(int at) {
            return at >= 0 && at <= size - CELLS_OF_BLOW;
        }
    }

    /**
     * Deals BLOWS out to MEN. A MAN's way is a chain of BLOWS; each BLOW that gets one ahead of it
     * saves a MAN, so the most such pairs (a matching, made greater by turning paths) leave the fewest.
     */
    private static final class Crew {
        private static final int NOBODY = -1;

        private final int[] canFollow = new int[MOST_BLOWS];
        private final int[] ahead = new int[MOST_BLOWS];
        private final int[] behind = new int[MOST_BLOWS];
        private final int[] reachedFrom = new int[MOST_BLOWS];
        private final int[] queue = new int[MOST_BLOWS];
        private int size;

        void begin(int blowCount) {
            size = Math.min(blowCount, MOST_BLOWS);
            for (int i = 0; i < size; i++) {
                canFollow[i] = 0;
                ahead[i] = NOBODY;
                behind[i] = NOBODY;
            }
        }

        void allow(int i, int j) {
            canFollow[i] |= 1 << j;
        }

        int least() {
            int saved = 0;
            for (int i = 0; i < size; i++) {
                int last = findFree(i);
                if (last != NOBODY) {
                    turnPath(last);
                    saved++;
                }
            }
            return size - saved;
        }

        private int findFree(int start) {
            int reached = 0;
            int tail = 1;
            queue[0] = start;
            for (int head = 0; head < tail; head++) {
                int from = queue[head];
                for (int j = 0; j < size; j++) {
                    if ((canFollow[from] & ~reached & 1 << j) != 0) {
                        reached |= 1 << j;
                        reachedFrom[j] = from;
                        if (ahead[j] == NOBODY) {
                            return j;
                        }
                        if (tail < MOST_BLOWS) {
                            queue[tail] = ahead[j];
                            tail++;
                        }
                    }
                }
            }
            return NOBODY;
        }

        private void turnPath(int last) {
            int j = last;
            for (int step = 0; step < size && j != NOBODY; step++) {
                int from = reachedFrom[j];
                int before = behind[from];
                ahead[j] = from;
                behind[from] = j;
                j = before;
            }
        }
    }
}
