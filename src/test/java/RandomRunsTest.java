import java.lang.reflect.InvocationTargetException;
import java.lang.reflect.Method;
import java.util.ArrayList;
import java.util.Arrays;
import java.util.Comparator;
import java.util.HashMap;
import java.util.List;
import java.util.Map;
import java.util.Random;
import java.util.TreeMap;

/** Runs of 512 calls by chance (always the same ones), each answer compared with the model's. */
public final class RandomRunsTest {
    private static final int RUNS = 600;
    private static final int CALLS = 512;
    private static final int[] ODD = {Integer.MIN_VALUE, Integer.MAX_VALUE, -1, -2, 1000, 255, 256, 81, 401, 201, Integer.MIN_VALUE + 9};

    private final Random random;
    private final ChurchOrgan organ = new ChurchOrgan();
    private final Model model = new Model();
    private final List<String> told = new ArrayList<>();
    private final Map<String, Integer> seen;
    private static final Map<String, Method> OURS = methods(ChurchOrgan.class);
    private static final Map<String, Method> MODELS = methods(Model.class);

    private RandomRunsTest(long seed, Map<String, Integer> seen) {
        this.random = new Random(seed);
        this.seen = seen;
    }

    private static Map<String, Method> methods(Class<?> owner) {
        Map<String, Method> all = new HashMap<>();
        for (Method m : owner.getDeclaredMethods()) {
            boolean asked = owner == ChurchOrgan.class ? java.lang.reflect.Modifier.isPublic(m.getModifiers())
                : !java.lang.reflect.Modifier.isPrivate(m.getModifiers()) && !m.isSynthetic();
            if (asked) all.put(m.getName(), m);
        }
        return all;
    }

    public static void main(String[] args) throws Exception {
        Map<String, Integer> seen = new TreeMap<>();
        int wrong = 0;
        for (int run = 0; run < RUNS && wrong < 3; run++) {
            RandomRunsTest test = new RandomRunsTest(run, seen);
            if (!test.goes()) {
                wrong++;
                System.out.println("run " + run + ":");
                for (String line : test.told) System.out.println("  " + line);
            }
        }
        // the runs are worth something only while every call of the face meets its good answers, too
        for (String name : OURS.keySet()) {
            if (seen.getOrDefault(name, 0) < 20) {
                wrong++;
                System.out.println(name + " was answered 0 or more only " + seen.getOrDefault(name, 0) + " times");
            }
        }
        System.out.println(wrong == 0 ? "all runs as the model" : wrong + " faults");
        if (wrong != 0) System.exit(1);
    }

    private boolean goes() throws Exception {
        List<String> names = new ArrayList<>(OURS.keySet());
        names.remove("feed");
        names.remove("land");
        names.sort(Comparator.naturalOrder());
        if (!text()) return false;
        while (told.size() < CALLS) {
            int dice = random.nextInt(100);
            boolean fine = dice < 2 ? text() : dice < 14 ? blowWell() : dice < 19 ? noteWell() : dice < 22 ? sheetWell()
                : any(names.get(random.nextInt(names.size())));
            if (!fine) return false;
        }
        return true;
    }

    private boolean ask(String name, Object... arguments) throws Exception {
        int due = (Integer) MODELS.get(name).invoke(model, arguments);
        int got;
        try {
            got = (Integer) OURS.get(name).invoke(organ, arguments);
        } catch (InvocationTargetException e) {
            told.add(name + Arrays.toString(arguments) + " threw " + e.getCause());
            return false;
        }
        told.add(name + Arrays.toString(arguments) + " = " + got + (got == due ? "" : ", due is " + due));
        if (got >= 0) seen.merge(name, 1, Integer::sum);
        return got == due;
    }

    private int some(int below) {
        int dice = random.nextInt(40);
        if (dice == 0) return ODD[random.nextInt(ODD.length)];
        return dice == 1 ? below : random.nextInt(below);
    }

    private boolean any(String name) throws Exception {
        Class<?>[] kinds = OURS.get(name).getParameterTypes();
        Object[] arguments = new Object[kinds.length];
        for (int i = 0; i < kinds.length; i++) {
            arguments[i] = kinds[i] == boolean.class ? (Object) random.nextBoolean() : (Object) some(width(name, i));
        }
        return ask(name, arguments);
    }

    /** Some numbers below which an argument is mostly as told. */
    private int width(String name, int i) {
        switch (name + i) {
            case "tower0": case "move0": case "carry0": case "blow0": return 4;
            case "blow2": return 8;
            case "carry1": return random.nextBoolean() ? 256 : 16;
            case "blow1": case "noted0": return 60;
            case "heard1": return 90;
            case "tower1": case "note1": case "rights0": case "fewest0": case "lost0": case "keep0": case "back0": return 2;
            case "wind0": case "wind1": case "span1": case "near1": case "watch1": case "sheet1": case "read1": return 3;
            case "hill0": return 4;
            case "pipes0": case "sheet0": case "lay0": case "read0": return 4;
            case "note0": case "count0": case "rule0": case "runs0": case "runs1": case "blown0": return 8;
            case "twice2": return random.nextBoolean() ? 3 : 20;
            case "blown1": return random.nextBoolean() ? 3 : 60;
            case "both2": return random.nextInt(3) + 1;
            case "near0": return 20;
            case "sheet2": case "lay1": return 41;
            case "read2": return 20;
            case "read3": return 5;
            case "lay2": return 4;
            case "end0": return 12;
            default: return random.nextInt(4) == 0 ? 81 : 22;
        }
    }

    private boolean blowWell() throws Exception {
        int t = random.nextInt(4);
        int has = organ.tower(t, 1);
        int tone = random.nextInt(8);
        for (int i = 0; i < 8 && (has >> tone & 1) == 0; i++) tone = (tone + 1) % 8;
        return ask("blow", t, random.nextInt(random.nextInt(20) + 1), tone);
    }

    /** Notes all as it comes to one cell, some later, perhaps with one watch wrong. */
    private boolean noteWell() throws Exception {
        int cell = random.nextInt(3) + 9 * random.nextInt(3);
        int wrongTower = random.nextInt(3);
        int wrongBy = random.nextInt(60) - 25;
        int later = random.nextBoolean() ? 0 : random.nextInt(30);
        if (!ask("forget")) return false;
        int most = random.nextInt(10) + 1;
        for (int i = 0; i < most && i < organ.count(3); i++) {
            int beat = organ.blown(i, 10 + cell) + later;
            if (later == 0 && organ.blown(i, 0) == wrongTower) beat += wrongBy;
            if (!ask("noted", beat)) return false;
        }
        return ask("watch", cell, 0) && ask("watch", cell, 1) && ask("watch", cell, 2) && ask("fits", cell)
            && ask("lost", 0) && ask("lost", 1);
    }

    private boolean sheetWell() throws Exception {
        int k = random.nextInt(4);
        int lane = random.nextInt(3);
        int many = random.nextInt(4);
        if (!ask("sheet", k, lane, 3 * many + random.nextInt(3))) return false;
        for (int i = 0; i < many; i++) {
            if (!ask("lay", k, 3 * i, random.nextInt(2)) || !ask("lay", k, 3 * i + 1, random.nextInt(150))
                || !ask("lay", k, 3 * i + 2, random.nextInt(3))) return false;
        }
        return ask("read", k, random.nextInt(5) == 0 ? random.nextInt(3) : lane, random.nextInt(2), random.nextInt(5)) && ask("torn");
    }

    private boolean text() throws Exception {
        StringBuilder text = new StringBuilder();
        int wide = random.nextInt(8) + 2;
        int high = random.nextInt(8) + 2;
        if (random.nextBoolean()) text.append("ground ").append(wide).append(' ').append(high).append(';');
        if (random.nextBoolean()) text.append("pace").append(random.nextInt(9) + 1).append("; ");
        if (random.nextBoolean()) text.append("run ").append(random.nextInt(4) + 1).append(';');
        if (random.nextBoolean()) text.append("wind ").append(random.nextInt(3)).append("  ").append(random.nextInt(3)).append(';');
        int towers = random.nextInt(5) + 1;
        for (int t = 0; t < towers; t++) {
            text.append("tower ").append(random.nextInt(wide)).append(' ').append(random.nextInt(high)).append(' ')
                .append(random.nextInt(random.nextBoolean() ? 256 : 16)).append(";");
        }
        for (int h = random.nextInt(4); h > 0; h--) {
            text.append("hill ").append(random.nextInt(wide)).append(' ').append(random.nextInt(high)).append(';');
        }
        int beat = 0;
        for (int n = random.nextInt(random.nextBoolean() ? 6 : 13); n > 0; n--) {
            beat = Math.min(60, beat + random.nextInt(5));
            text.append("note ").append(beat).append(' ').append(random.nextInt(random.nextBoolean() ? 3 : 8)).append(';');
        }
        if (random.nextInt(3) == 0) spoil(text);
        if (text.length() > 320) text.setLength(320);
        return lay(text) && ask("land") && ask("fault") && (random.nextBoolean() || playWell());
    }

    private boolean playWell() throws Exception {
        int cell = random.nextInt(2) + 9 * random.nextInt(2);
        return ask("plays", cell) && ask("right", cell) && ask("rights", 0) && ask("near", 3, 0) && ask("near", 3, 2);
    }

    private void spoil(StringBuilder text) {
        String signs = "ab ;;019  !tower";
        for (int n = random.nextInt(2) + 1; n > 0; n--) {
            int at = random.nextInt(text.length());
            char sign = random.nextInt(12) == 0 ? (char) random.nextInt(256) : signs.charAt(random.nextInt(signs.length()));
            switch (random.nextInt(4)) {
                case 0: text.setCharAt(at, sign); break;
                case 1: text.insert(at, sign); break;
                case 2: text.deleteCharAt(at); if (text.length() == 0) text.append(' '); break;
                default: text.insert(text.indexOf(";", at) + 1, "tower 8 1 2;hill 0 0;pace 2;"); break;
            }
        }
    }

    private boolean lay(StringBuilder text) throws Exception {
        if (!ask("end", 0)) return false;
        for (int at = 0; at < text.length(); at += 8) {
            long eight = 0;
            for (int i = at; i < at + 8; i++) eight = eight << 8 | (i < text.length() ? text.charAt(i) : ' ');
            if (!ask("feed", eight)) return false;
        }
        return ask("end", text.length());
    }
}
