import java.io.IOException;
import java.nio.charset.StandardCharsets;
import java.nio.file.Files;
import java.nio.file.Path;
import java.util.List;
import java.util.TreeSet;

/**
 * Tests of bounds, sentence by sentence: what is still taken, what is refused, and that what is refused has changed
 * nothing. What a test asks is written "call = answer that is due".
 */
final class Bounds {
    private static final int TERMS = 0;

    private final Check check = new Check();
    private final String doc;
    private final TreeSet<Integer> promises = new TreeSet<>();
    private String sentence = "";

    Bounds() {
        try {
            doc = Files.readString(Path.of("../shared/DOC.md"), StandardCharsets.UTF_8);
        } catch (IOException e) {
            throw new IllegalStateException(e);
        }
    }

    /** The words that the next tests are of: they must stand in the document, under that promise (0: ahead of all). */
    void says(int promise, String words) {
        sentence = promise + ", '" + words + "': ";
        promises.add(promise);
        int from = promise == TERMS ? 0 : doc.indexOf("## Promise " + promise + ":");
        int to = doc.indexOf("\n## ", promise == TERMS ? doc.indexOf("## Terms") : from);
        check.due(sentence + "stands in the document", doc.substring(from, to).contains(words) ? 1 : 0, 1);
    }

    /** The answers of calls one behind another. */
    void goes(Run run, String... lines) {
        Asked x = run.make();
        for (String line : lines) {
            check.due(sentence + callOf(line), x.ask(callOf(line)), dueOf(line));
        }
    }

    /** Each call by itself: its answer, and that it has changed nothing. */
    void asks(Run run, String... lines) {
        for (String line : lines) {
            int answer = run.make().ask(callOf(line));
            check.due(sentence + callOf(line), answer, dueOf(line));
            unchanged(run, callOf(line), answer);
        }
    }

    /** Each call by itself: it is refused, and has changed nothing. */
    void refused(Run run, String... lines) {
        for (String line : lines) {
            if (dueOf(line) >= 0) throw new IllegalStateException("that is no refusal: " + line);
        }
        asks(run, lines);
    }

    private void unchanged(Run run, String call, int answer) {
        alike(answer < 0 ? run.refused(call) : run.then(call), run, call + " changed something");
    }

    /** Whether two runs end in the same state, so far as it can be seen. */
    void alike(Run one, Run other, String what) {
        alike(one, other, what, "no line at all");
    }

    void alike(Run one, Run other, String what, String butFor) {
        List<String> left = one.seen();
        List<String> right = other.seen();
        int same = 0;
        while (same < left.size() && same < right.size()
            && (left.get(same).equals(right.get(same)) || left.get(same).contains(butFor))) {
            same++;
        }
        boolean all = same == left.size() && same == right.size();
        String where = all ? "" : ": " + (same < left.size() ? left.get(same) : "less is seen")
            + ", due is " + (same < right.size() ? right.get(same) : "nothing more");
        check.due(sentence + what + where, all ? 1 : 0, 1);
    }

    /** A number from low to high is taken in the place of the sign #; the next ones and the farthest are BAD. */
    void range(Run run, String call, int low, int high) {
        for (int fine : new int[] {low, high}) {
            int answer = run.make().ask(with(call, fine));
            check.due(sentence + with(call, fine) + " is BAD", answer == Check.BAD ? 1 : 0, 0);
        }
        for (int wrong : new int[] {low - 1, high + 1, Integer.MIN_VALUE, Integer.MAX_VALUE}) {
            refused(run, with(call, wrong) + " = -1");
        }
    }

    /** Every CELL of a ground is taken in the place of the sign # (and more), every other number near is BAD. */
    void cells(Run run, String call, int wide, int high, int more) {
        for (int cell = -1; cell <= 90; cell++) {
            if (cell >= 0 && cell % 9 < wide && cell / 9 < high) {
                int answer = run.make().ask(with(call, cell + more));
                check.due(sentence + with(call, cell + more) + " is BAD", answer == Check.BAD ? 1 : 0, 0);
            } else {
                refused(run, with(call, cell + more) + " = -1");
            }
        }
        refused(run, with(call, Integer.MIN_VALUE) + " = -1", with(call, Integer.MAX_VALUE) + " = -1");
    }

    void finish(int from, int to) {
        for (int promise = from; promise <= to; promise++) {
            check.due("promise " + promise + " has no sentence here", promises.contains(promise) ? 0 : 1, 0);
        }
        check.finish();
    }

    private static String with(String call, int number) {
        return call.replace("#", Integer.toString(number));
    }

    private static String callOf(String line) {
        return line.substring(0, line.indexOf('=')).trim();
    }

    private static int dueOf(String line) {
        return Integer.parseInt(line.substring(line.indexOf('=') + 1).trim());
    }
}
