import java.util.ArrayList;
import java.util.Collections;
import java.util.HashMap;
import java.util.List;
import java.util.Map;
import java.util.TreeMap;
import java.util.TreeSet;
import java.util.regex.Matcher;
import java.util.regex.Pattern;

/** The document written down a second time, as plainly as may be and without regard to cost, to be compared with. */
final class Model {
    static final int BAD = -1, STATE = -2, FULL = -3, NONE = -4;

    private static final Map<String, int[][]> LINES = new HashMap<>();

    static {
        LINES.put("ground", new int[][] {{1, 9}, {1, 9}});
        LINES.put("pace", new int[][] {{1, 9}});
        LINES.put("run", new int[][] {{1, 9}});
        LINES.put("wind", new int[][] {{0, 2}, {0, 2}});
        LINES.put("tower", new int[][] {{0, 8}, {0, 8}, {0, 255}});
        LINES.put("hill", new int[][] {{0, 8}, {0, 8}});
        LINES.put("note", new int[][] {{0, 60}, {0, 7}});
    }

    private record Wrong(int fault, int place) { }

    private static final class WrongText extends RuntimeException {
        final transient Wrong wrong;

        WrongText(int fault, int place) {
            wrong = new Wrong(fault, place);
        }
    }

    private record Image(List<int[]> towers, int east, int south, List<int[]> blows, List<Integer> noted) { }

    private String tape = "";
    private int[] rules = {9, 9, 2, 3, 1, 1};
    private List<int[]> towers = new ArrayList<>();
    private List<Integer> hills = new ArrayList<>();
    private List<int[]> notes = new ArrayList<>();
    private List<int[]> blows = new ArrayList<>();
    private List<Integer> noted = new ArrayList<>();
    private final Image[] images = new Image[2];
    private final Object[] sheets = new Object[4];
    private int fault = 0;
    private int torn = 0;

    // ---- the text

    int feed(long v) {
        if (tape.length() > 312) return FULL;
        for (int i = 7; i >= 0; i--) tape += (char) (v >>> 8 * i & 255);
        return tape.length();
    }

    int end(int n) {
        if (n < 0 || n > tape.length()) return BAD;
        int had = tape.length();
        tape = tape.substring(0, n);
        return had;
    }

    private String token;
    private int tokenAt;
    private int readTo;

    private void next(String text) {
        Matcher m = Pattern.compile(" *([a-z]+|[0-9]+|;|$)", Pattern.DOTALL).matcher(text).region(readTo, text.length());
        if (!m.lookingAt()) {
            int at = readTo;
            while (text.charAt(at) == ' ') at++;
            throw new WrongText(1, at);
        }
        token = m.group(1);
        tokenAt = m.start(1);
        readTo = m.end();
        if (token.matches("[0-9]{4,}")) throw new WrongText(1, tokenAt);
    }

    int land() {
        String text = tape;
        tape = "";
        Map<String, List<int[]>> lines = new TreeMap<>();
        try {
            int many = readLines(text, lines);
            fault = 0;
            return many;
        } catch (WrongText e) {
            fault = e.wrong.fault();
            return -10 - e.wrong.place();
        }
    }

    private int readLines(String text, Map<String, List<int[]>> lines) {
        Map<String, Integer> most = Map.of("ground", 1, "pace", 1, "run", 1, "wind", 1, "tower", 6, "hill", 3, "note", 12);
        for (String name : LINES.keySet()) lines.put(name, new ArrayList<>());
        int many = 0;
        int beat = 0;
        readTo = 0;
        for (next(text); !token.isEmpty(); next(text)) {
            String name = token;
            if (!LINES.containsKey(name)) throw new WrongText(2, tokenAt);
            if (lines.get(name).size() == most.get(name)) throw new WrongText(most.get(name) == 1 ? 4 : 5, tokenAt);
            int[][] bounds = LINES.get(name);
            int[] values = new int[bounds.length];
            for (int i = 0; i < bounds.length; i++) {
                next(text);
                if (!token.matches("[0-9]+")) throw new WrongText(2, tokenAt);
                values[i] = Integer.parseInt(token);
                if (values[i] < bounds[i][0] || values[i] > bounds[i][1]) throw new WrongText(3, tokenAt);
                if (name.equals("note") && i == 0) {
                    if (values[i] < beat) throw new WrongText(3, tokenAt);
                    beat = values[i];
                }
            }
            next(text);
            if (!token.equals(";")) throw new WrongText(2, tokenAt);
            lines.get(name).add(values);
            many++;
        }
        settle(text, lines);
        return many;
    }

    private void settle(String text, Map<String, List<int[]>> lines) {
        int[] fresh = {9, 9, 2, 3, 1, 1};
        for (int[] v : lines.get("ground")) { fresh[0] = v[0]; fresh[1] = v[1]; }
        for (int[] v : lines.get("pace")) fresh[2] = v[0];
        for (int[] v : lines.get("run")) fresh[3] = v[0];
        for (int[] v : lines.get("wind")) { fresh[4] = v[0]; fresh[5] = v[1]; }
        for (String name : new String[] {"tower", "hill"}) {
            for (int[] v : lines.get(name)) {
                if (v[0] >= fresh[0] || v[1] >= fresh[1]) throw new WrongText(6, text.length());
            }
        }
        rules = fresh;
        towers = new ArrayList<>();
        for (int[] v : lines.get("tower")) towers.add(new int[] {9 * v[1] + v[0], v[2]});
        hills = new ArrayList<>();
        for (int[] v : lines.get("hill")) hills.add(9 * v[1] + v[0]);
        notes = lines.get("note");
        blows = new ArrayList<>();
        noted = new ArrayList<>();
        images[0] = null;
        images[1] = null;
    }

    int fault() { return fault; }

    int rule(int what) { return what < 0 || what > 5 ? BAD : rules[what]; }

    int tower(int t, int what) { return t < 0 || t >= towers.size() || what < 0 || what > 1 ? BAD : towers.get(t)[what]; }

    int hill(int h) { return h < 0 || h >= hills.size() ? BAD : hills.get(h); }

    int note(int i, int what) { return i < 0 || i >= notes.size() || what < 0 || what > 1 ? BAD : notes.get(i)[what]; }

    int wind(int east, int south) {
        if (east < 0 || east > 2 || south < 0 || south > 2) return BAD;
        int was = 3 * rules[4] + rules[5];
        rules[4] = east;
        rules[5] = south;
        return was;
    }

    int carry(int t, int tones) {
        if (t < 0 || t >= towers.size() || tones < 0 || tones > 255) return BAD;
        for (int[] b : blows) if (b[0] == t && (tones & 1 << b[2]) == 0) return STATE;
        int was = towers.get(t)[1];
        towers.set(t, new int[] {towers.get(t)[0], tones});
        return was;
    }

    int move(int t, int cell) {
        if (t < 0 || t >= towers.size() || !isCell(cell)) return BAD;
        int was = towers.get(t)[0];
        towers.set(t, new int[] {cell, towers.get(t)[1]});
        return was;
    }

    private boolean isCell(int cell) { return cells().contains(cell); }

    private List<Integer> cells() {
        List<Integer> all = new ArrayList<>();
        for (int y = 0; y < rules[1]; y++) for (int x = 0; x < rules[0]; x++) all.add(9 * y + x);
        return all;
    }

    // ---- sound, blows

    private static int far(int a, int b) { return Math.max(Math.abs(a % 9 - b % 9), Math.abs(a / 9 - b / 9)); }

    private int sound(int from, int to) {
        int time = rules[2] * far(from, to);
        int east = to % 9 - from % 9;
        int south = to / 9 - from / 9;
        if (east > 0 && rules[4] == 0) time += east;
        if (east < 0 && rules[4] == 2) time -= east;
        if (south > 0 && rules[5] == 0) time += south;
        if (south < 0 && rules[5] == 2) time -= south;
        return time;
    }

    int takes(int from, int to) { return isCell(from) && isCell(to) ? sound(from, to) : BAD; }

    int blow(int t, int beat, int tone) {
        if (t < 0 || t >= towers.size() || beat < 0 || beat > 200 || tone < 0 || tone > 7) return BAD;
        if ((towers.get(t)[1] & 1 << tone) == 0) return STATE;
        if (blows.size() == 24) return FULL;
        blows.add(new int[] {t, beat, tone});
        return blows.size();
    }

    int silence() {
        int were = blows.size();
        blows = new ArrayList<>();
        noted = new ArrayList<>();
        return were;
    }

    private int comes(int i, int cell) { return blows.get(i)[1] + sound(towers.get(blows.get(i)[0])[0], cell); }

    private List<Integer> times(int i, int cell, boolean echoes) {
        List<Integer> all = new ArrayList<>();
        all.add(comes(i, cell));
        if (echoes) for (int h : hills) all.add(comes(i, h) + sound(h, cell));
        return all;
    }

    int blown(int i, int what) {
        if (i < 0 || i >= blows.size()) return BAD;
        if (what >= 0 && what < 3) return blows.get(i)[what];
        return what >= 10 && isCell(what - 10) ? comes(i, what - 10) : BAD;
    }

    int heard(int cell, int beat, boolean echoes) {
        if (!isCell(cell) || beat < 0 || beat > 999) return BAD;
        int bits = 0;
        for (int i = 0; i < blows.size(); i++) if (times(i, cell, echoes).contains(beat)) bits |= 1 << blows.get(i)[2];
        return bits;
    }

    int span(int cell, int what) {
        if (!isCell(cell) || what < 0 || what > 2) return BAD;
        List<Integer> all = new ArrayList<>();
        for (int i = 0; i < blows.size(); i++) all.addAll(times(i, cell, true));
        if (what == 2) return all.size();
        if (all.isEmpty()) return NONE;
        return what == 0 ? Collections.min(all) : Collections.max(all);
    }

    // ---- the psalm

    private boolean has(int t, int tone) { return (towers.get(t)[1] & 1 << tone) != 0; }

    private int become(int cell, List<Integer> chosen) {
        for (int offset = 0;; offset++) {
            List<int[]> fresh = new ArrayList<>();
            boolean can = true;
            for (int i = 0; i < notes.size(); i++) {
                int beat = notes.get(i)[0] + offset - sound(towers.get(chosen.get(i))[0], cell);
                can &= beat >= 0;
                fresh.add(new int[] {chosen.get(i), beat, notes.get(i)[1]});
            }
            if (can) {
                blows = fresh;
                noted = new ArrayList<>();
                return offset;
            }
        }
    }

    int plays(int cell) {
        if (!isCell(cell)) return BAD;
        if (notes.isEmpty()) return STATE;
        List<Integer> chosen = new ArrayList<>();
        for (int[] note : notes) {
            TreeSet<Integer> best = new TreeSet<>();
            for (int t = 0; t < towers.size(); t++) if (has(t, note[1])) best.add(1000 * sound(towers.get(t)[0], cell) + t);
            if (best.isEmpty()) return NONE;
            chosen.add(best.first() % 1000);
        }
        return become(cell, chosen);
    }

    private Integer offset(int cell) {
        List<Integer> want = new ArrayList<>();
        for (int[] note : notes) want.add(10 * note[0] + note[1]);
        Collections.sort(want);
        for (int offset = -200; offset <= 500; offset++) {
            List<Integer> got = new ArrayList<>();
            for (int i = 0; i < blows.size(); i++) got.add(10 * (comes(i, cell) - offset) + blows.get(i)[2]);
            Collections.sort(got);
            if (got.equals(want)) return offset;
        }
        return null;
    }

    int right(int cell) {
        if (!isCell(cell)) return BAD;
        if (notes.isEmpty()) return STATE;
        Integer offset = offset(cell);
        return offset == null ? NONE : offset + 1000;
    }

    private static int tellCells(List<Integer> found, int what) {
        if (what == 0) return found.size();
        return found.isEmpty() ? NONE : found.get(0);
    }

    int rights(int what) {
        if (what < 0 || what > 1) return BAD;
        if (notes.isEmpty()) return STATE;
        List<Integer> found = new ArrayList<>();
        if (blows.size() == notes.size()) for (int cell : cells()) if (offset(cell) != null) found.add(cell);
        return tellCells(found, what);
    }

    private boolean alike() {
        if (notes.isEmpty() || notes.size() != blows.size()) return false;
        for (int i = 0; i < notes.size(); i++) if (notes.get(i)[1] != blows.get(i)[2]) return false;
        return true;
    }

    private int offBy(int cell) {
        List<Integer> late = new ArrayList<>();
        for (int i = 0; i < notes.size(); i++) late.add(comes(i, cell) - notes.get(i)[0]);
        return Collections.max(late) - Collections.min(late);
    }

    int off(int cell) {
        if (!isCell(cell)) return BAD;
        return alike() ? offBy(cell) : STATE;
    }

    int near(int n, int what) {
        if (n < 0 || n > 99 || what < 0 || what > 2) return BAD;
        if (!alike()) return STATE;
        int many = 0;
        TreeSet<Integer> best = new TreeSet<>();
        for (int cell : cells()) {
            if (offBy(cell) <= n) many++;
            best.add(1000 * offBy(cell) + cell);
        }
        return what == 0 ? many : what == 1 ? best.first() / 1000 : best.first() % 1000;
    }

    private List<Integer> byLag(int a, int b, int lag) {
        List<Integer> chosen = new ArrayList<>();
        for (int[] note : notes) {
            for (int t = 0; t < towers.size(); t++) {
                int cell = towers.get(t)[0];
                if (has(t, note[1]) && sound(cell, b) - sound(cell, a) == lag) {
                    chosen.add(t);
                    break;
                }
            }
        }
        return chosen.size() == notes.size() ? chosen : null;
    }

    int twice(int a, int b, int what) {
        if (!isCell(a) || !isCell(b) || what < 0 || what > 2 && what < 10 || what - 10 >= notes.size() && what > 2) return BAD;
        if (notes.isEmpty()) return STATE;
        TreeSet<Integer> lags = new TreeSet<>();
        for (int lag = -300; lag <= 300; lag++) if (byLag(a, b, lag) != null) lags.add(lag);
        if (what == 0) return lags.size();
        if (lags.isEmpty()) return NONE;
        if (what == 1) return lags.first() + 1000;
        return what == 2 ? lags.last() + 1000 : byLag(a, b, lags.first()).get(what - 10);
    }

    int both(int a, int b, int lag) {
        if (!isCell(a) || !isCell(b) || lag < -99 || lag > 99) return BAD;
        if (notes.isEmpty()) return STATE;
        List<Integer> chosen = byLag(a, b, lag);
        return chosen == null ? NONE : become(a, chosen);
    }

    // ---- towers, pipes, men

    private int lacking(int set) {
        TreeSet<Integer> lack = new TreeSet<>();
        for (int[] note : notes) lack.add(note[1]);
        for (int t = 0; t < towers.size(); t++) {
            if ((set & 1 << t) != 0) for (int tone = 0; tone < 8; tone++) if (has(t, tone)) lack.remove(tone);
        }
        return lack.size();
    }

    int fewest(int what) {
        if (what < 0 || what > 1) return BAD;
        for (int size = 0; size <= towers.size(); size++) {
            for (int set = 0; set < 1 << towers.size(); set++) {
                if (Integer.bitCount(set) == size && lacking(set) == 0) return what == 0 ? size : set;
            }
        }
        return NONE;
    }

    int pipes(int what) {
        if (what < 0 || what > 3) return BAD;
        TreeSet<Integer> best = new TreeSet<>();
        for (int t = 0; t < towers.size(); t++) {
            if (what < 2) best.add(1000 * lacking(1 << t) + t);
            for (int u = 0; u < t; u++) if (what >= 2) best.add(1000 * lacking(1 << t | 1 << u) + (1 << t | 1 << u));
        }
        if (best.isEmpty()) return NONE;
        return what % 2 == 0 ? best.first() / 1000 : best.first() % 1000;
    }

    private boolean can(int i, int j) {
        int way = rules[3] * far(towers.get(blows.get(i)[0])[0], towers.get(blows.get(j)[0])[0]);
        return blows.get(i)[1] + Math.max(1, way) <= blows.get(j)[1];
    }

    /** As many men as there are blows of which no two can be one man's (Dilworth). */
    int men() { return mostApart(0, new ArrayList<>()); }

    private int mostApart(int i, List<Integer> taken) {
        if (i == blows.size()) return taken.size();
        int best = 0;
        boolean apart = true;
        boolean lonely = true;
        for (int j : taken) apart &= !can(i, j) && !can(j, i);
        for (int j = 0; j < blows.size(); j++) lonely &= j == i || !can(i, j) && !can(j, i);
        if (apart) {
            taken.add(i);
            best = mostApart(i + 1, taken);
            taken.remove(taken.size() - 1);
        }
        return lonely ? best : Math.max(best, mostApart(i + 1, taken));
    }

    int runs(int i, int j) {
        if (i < 0 || i >= blows.size() || j < 0 || j >= blows.size() || i == j) return BAD;
        return can(i, j) ? 1 : 0;
    }

    // ---- watches, one who is lost

    int noted(int beat) {
        if (beat < 0 || beat > 400) return BAD;
        if (noted.size() >= blows.size()) return STATE;
        noted.add(beat);
        return noted.size();
    }

    int forget() {
        int were = noted.size();
        noted = new ArrayList<>();
        return were;
    }

    int watch(int cell, int what) {
        if (!isCell(cell) || what < 0 || what > 2) return BAD;
        if (noted.isEmpty()) return STATE;
        List<int[]> ways = new ArrayList<>();
        for (int t = 0; t < towers.size(); t++) {
            for (int d = -20; d <= 20; d++) {
                boolean some = false;
                boolean all = d != 0;
                for (int i = 0; i < noted.size(); i++) {
                    boolean its = blows.get(i)[0] == t;
                    some |= its;
                    all &= comes(i, cell) + (its ? d : 0) == noted.get(i);
                }
                if (some && all) ways.add(new int[] {t, d});
            }
        }
        if (what == 0) return ways.size();
        if (ways.isEmpty()) return NONE;
        return what == 1 ? ways.get(0)[0] : ways.get(0)[1] + 100;
    }

    int lost(int what) {
        if (what < 0 || what > 1) return BAD;
        if (noted.isEmpty()) return STATE;
        List<Integer> found = new ArrayList<>();
        for (int cell : cells()) {
            TreeSet<Integer> late = new TreeSet<>();
            for (int i = 0; i < noted.size(); i++) late.add(noted.get(i) - comes(i, cell));
            if (late.size() == 1) found.add(cell);
        }
        return tellCells(found, what);
    }

    int fits(int cell) {
        if (!isCell(cell)) return BAD;
        if (noted.isEmpty()) return STATE;
        int many = 0;
        for (int i = 0; i < noted.size(); i++) if (noted.get(i) == comes(i, cell)) many++;
        return many;
    }

    // ---- images, sheets

    int keep(int k) {
        if (k < 0 || k > 1) return BAD;
        boolean was = images[k] != null;
        images[k] = new Image(List.copyOf(towers), rules[4], rules[5], List.copyOf(blows), List.copyOf(noted));
        return was ? 1 : 0;
    }

    int back(int k) {
        if (k < 0 || k > 1) return BAD;
        if (images[k] == null) return STATE;
        towers = new ArrayList<>(images[k].towers());
        rules[4] = images[k].east();
        rules[5] = images[k].south();
        blows = new ArrayList<>(images[k].blows());
        noted = new ArrayList<>(images[k].noted());
        return blows.size();
    }

    int sheet(int k, int lane, int n) {
        if (k < 0 || k > 3 || lane < 0 || lane > 2 || n > 40) return BAD;
        try {
            sheets[k] = lane == 0 ? new byte[n] : lane == 1 ? new short[n] : (Object) new int[n];
            return 1;
        } catch (NegativeArraySizeException e) {
            return -14;
        }
    }

    int lay(int k, int i, int v) {
        if (k < 0 || k > 3) return BAD;
        try {
            if (sheets[k] instanceof byte[] b) b[i] = (byte) v;
            else if (sheets[k] instanceof short[] s) s[i] = (short) v;
            else ((int[]) sheets[k])[i] = v;
            return 1;
        } catch (NullPointerException e) {
            return -11;
        } catch (ArrayIndexOutOfBoundsException e) {
            return -12;
        }
    }

    private static int cell(Object sheet, int lane, int i) {
        return lane == 0 ? ((byte[]) sheet)[i] : lane == 1 ? ((short[]) sheet)[i] : ((int[]) sheet)[i];
    }

    /** Here the machine itself finds the faults. */
    int read(int k, int lane, int f, int n) {
        if (k < 0 || k > 3 || lane < 0 || lane > 2 || n < 0 || n > 13) return BAD;
        List<int[]> before = new ArrayList<>(blows);
        int i = 0;
        int found = 0;
        try {
            for (; i < n; i++) {
                int t = cell(sheets[k], lane, f + 3 * i);
                int beat = cell(sheets[k], lane, f + 3 * i + 1);
                int tone = cell(sheets[k], lane, f + 3 * i + 2);
                if (blow(t, beat, tone) < 0) {
                    blows = before;
                    return -20 - i;
                }
            }
        } catch (NullPointerException e) {
            found = 1;
        } catch (ArrayIndexOutOfBoundsException e) {
            found = 2;
        } catch (ClassCastException e) {
            found = 3;
        }
        torn = found;
        return i;
    }

    int torn() { return torn; }

    int count(int what) {
        int kept = (images[0] == null ? 0 : 1) + (images[1] == null ? 0 : 1);
        int row = sheets[0] == null ? NONE : java.lang.reflect.Array.getLength(sheets[0]);
        int[] many = {towers.size(), hills.size(), notes.size(), blows.size(), noted.size(), kept, tape.length(), row};
        return what < 0 || what > 7 ? BAD : many[what];
    }
}
