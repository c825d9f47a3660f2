import java.util.ArrayList;
import java.util.List;

/** All that can be seen behind a run. Each way of looking gets an object of its own, since some of them change it. */
final class Look {
    private static final int SHEETS = 4, LANES = 3, IMAGES = 2, MOST_READ = 13;

    private final List<String> seen = new ArrayList<>();
    private Asked x;
    private String way;

    private Look() {
    }

    static List<String> at(Run run) {
        Look look = new Look();
        look.from(run, "what stands");
        look.land();
        look.blows();
        look.from(run, "what is noted");
        look.noted();
        for (int k = 0; k < IMAGES; k++) {
            look.from(run, "image " + k);
            look.note("back", k);
            look.land();
            look.blows();
            look.note("lost", 0);
            look.note("lost", 1);
        }
        for (int k = 0; k < SHEETS; k++) {
            look.from(run, "sheet " + k);
            look.sheet(k);
        }
        look.from(run, "the tape");
        look.note("land");
        look.land();
        return look.seen;
    }

    private void from(Run run, String newWay) {
        x = run.make();
        way = newWay;
    }

    private int note(String name, Object... arguments) {
        int answer = x.asks(name, arguments);
        StringBuilder line = new StringBuilder(way).append(": ").append(name);
        for (Object argument : arguments) line.append(' ').append(argument);
        seen.add(line.append(" = ").append(answer).toString());
        return answer;
    }

    private void land() {
        note("fault");
        note("torn");
        for (int what = 0; what < 8; what++) note("count", what);
        for (int what = 0; what < 6; what++) note("rule", what);
        for (int t = 0; t < x.asks("count", 0); t++) {
            note("tower", t, 0);
            note("tower", t, 1);
        }
        for (int h = 0; h < x.asks("count", 1); h++) note("hill", h);
        for (int i = 0; i < x.asks("count", 2); i++) {
            note("note", i, 0);
            note("note", i, 1);
        }
    }

    private void blows() {
        for (int i = 0; i < x.asks("count", 3); i++) {
            for (int what = 0; what < 3; what++) note("blown", i, what);
        }
    }

    /** What was NOTED can not be asked for; where it fits, and which watches would make it, tells it apart. */
    private void noted() {
        int wide = x.asks("rule", 0);
        int high = x.asks("rule", 1);
        for (int y = 0; y < high; y++) {
            for (int column = 0; column < wide; column++) {
                note("fits", 9 * y + column);
                note("watch", 9 * y + column, 2);
            }
        }
        note("lost", 0);
        note("lost", 1);
    }

    /** In a land where all can be blown: what stands on the sheet is read as BLOWS, by each lane. */
    private void sheet(int k) {
        note("end", 0);
        for (int t = 0; t < 6; t++) {
            // "tower0  0 255 ; "
            x.asks("feed", 0x746f776572302020L);
            x.asks("feed", 0x3020323535203b20L);
        }
        x.asks("land");
        for (int lane = 0; lane < LANES; lane++) {
            note("read", k, lane, 0, MOST_READ);
            note("torn");
            blows();
            x.asks("silence");
        }
        note("lay", k, 0, 0);
        note("lay", k, 39, 0);
    }
}
