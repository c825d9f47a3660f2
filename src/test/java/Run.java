import java.util.ArrayList;
import java.util.Collections;
import java.util.List;

/** What is called on a new object ahead of what a test asks. A run is never changed: each word makes a longer one. */
final class Run {
    private static final String FINE = "+", REFUSED = "-";

    private final List<String> steps;
    private List<String> seen;

    private Run(List<String> steps) {
        this.steps = steps;
    }

    static Run fresh() {
        return new Run(List.of());
    }

    /** A text that is told and taken, on a fresh object. */
    static Run text(String text) {
        return fresh().tells(text);
    }

    private Run more(String sign, List<String> calls) {
        List<String> longer = new ArrayList<>(steps);
        for (String call : calls) longer.add(sign + call);
        return new Run(longer);
    }

    /** Calls that answer 0 or more. */
    Run then(String... calls) {
        return more(FINE, List.of(calls));
    }

    Run times(int n, String call) {
        return more(FINE, Collections.nCopies(n, call));
    }

    /** A call that answers below 0. */
    Run refused(String call) {
        return more(REFUSED, List.of(call));
    }

    /** A text that is laid on THE TAPE in place of what was there, each sign one byte. */
    Run laid(String text) {
        List<String> calls = new ArrayList<>();
        calls.add("end(0)");
        for (int at = 0; at < text.length(); at += 8) {
            long eight = 0;
            for (int i = at; i < at + 8; i++) eight = eight << 8 | (i < text.length() ? text.charAt(i) & 255 : ' ');
            calls.add("feed(" + eight + ")");
        }
        calls.add("end(" + text.length() + ")");
        return more(FINE, calls);
    }

    Run tells(String text) {
        return laid(text).then("land()");
    }

    Asked make() {
        Asked x = new Asked();
        for (String step : steps) {
            int answer = x.ask(step.substring(1));
            if (answer >= 0 != step.startsWith(FINE)) {
                throw new IllegalStateException("the test's own run goes wrong: " + step + " answered " + answer);
            }
        }
        return x;
    }

    /** Kept, since many calls are tried behind the same run. */
    List<String> seen() {
        if (seen == null) seen = Look.at(this);
        return seen;
    }
}
