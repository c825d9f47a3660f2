/** What the tests share: the counting of wrong answers, and texts laid on THE TAPE. */
final class Check {
    static final int BAD = -1, STATE = -2, FULL = -3, NONE = -4;

    private int asked = 0;
    private int wrong = 0;

    void due(String call, long got, long want) {
        asked++;
        if (got != want) {
            wrong++;
            System.out.println(call + " answered " + got + ", due is " + want);
        }
    }

    void finish() {
        System.out.println(asked + " answers asked, " + wrong + " not as due");
        if (wrong != 0 || asked == 0) {
            System.exit(1);
        }
    }

    /** Lays a text on an empty tape, each sign one byte. */
    static void lay(ChurchOrgan x, String text) {
        for (int at = 0; at < text.length(); at += 8) {
            long eight = 0;
            for (int i = at; i < at + 8; i++) {
                eight = eight << 8 | (i < text.length() ? text.charAt(i) & 255 : ' ');
            }
            x.feed(eight);
        }
        x.end(text.length());
    }

    static int tell(ChurchOrgan x, String text) {
        lay(x, text);
        return x.land();
    }

    static ChurchOrgan told(String text) {
        ChurchOrgan x = new ChurchOrgan();
        int lines = tell(x, text);
        if (lines < 0) {
            throw new IllegalStateException("the test's own text is refused: " + text + " by " + lines);
        }
        return x;
    }
}
