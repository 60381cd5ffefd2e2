import java.util.NoSuchElementException;

/** What the tests share: due answers are compared, and grammars are told from texts. */
final class Checks {
    static final int NONE = -1;
    /** Stands for an answer of a look that threw NoSuchElementException. */
    static final int THROWS = -99;
    private static final int MOST_PRINTED = 40;
    private static int wrong = 0;

    private Checks() {
    }

    static void due(String what, long got, long want) {
        due(what, String.valueOf(got), String.valueOf(want));
    }

    static void due(String what, boolean got, boolean want) {
        due(what, String.valueOf(got), String.valueOf(want));
    }

    static void due(String what, String got, String want) {
        if (!got.equals(want) && wrong++ < MOST_PRINTED) {
            System.out.println(what + " answered " + got + ", due is " + want);
        }
    }

    /** The exit code that a test must end with. */
    static int exitCode() {
        if (wrong > 0) {
            System.out.println(wrong + " answers are wrong");
        }
        return wrong == 0 ? 0 : 1;
    }

    /** Eight signs as a long, the first one highest; zeros, which are no signs, stand for what is missing. */
    static long eight(CharSequence text, int at) {
        long bytes = 0;
        for (int i = at; i < at + 8; i++) {
            bytes = bytes << 8 | (i < text.length() ? text.charAt(i) : 0);
        }
        return bytes;
    }

    static int feed(StopSetter x, CharSequence text) {
        int length = x.count(3);
        for (int at = 0; at < text.length(); at += 24) {
            length = x.feed(eight(text, at), eight(text, at + 8), eight(text, at + 16));
        }
        return length;
    }

    static int tell(StopSetter x, CharSequence text) {
        feed(x, text);
        return x.grammar();
    }

    static StopSetter told(String text) {
        StopSetter x = new StopSetter();
        due("grammar of " + text, tell(x, text), 0);
        return x;
    }

    static StopSetter words(StopSetter x, int... words) {
        for (int w : words) {
            int before = x.count(0);
            due("word(" + w + ")", x.word(w), before + 1);
        }
        return x;
    }

    static int look(StopSetter x, int i, int what) {
        try {
            return x.look(i, what);
        } catch (NoSuchElementException e) {
            // A class below it is another exception than the document's.
            return e.getClass() == NoSuchElementException.class ? THROWS : THROWS - 1;
        }
    }

    /** One answer of look for every word of the row. */
    static String looks(StopSetter x, int what) {
        StringBuilder all = new StringBuilder();
        for (int i = 0; i < x.count(0); i++) {
            all.append(i == 0 ? "" : " ").append(look(x, i, what));
        }
        return all.toString();
    }

    /** The PARTING that is told: end line (- for none) and go line of each STEP, then the last end line. */
    static String parting(StopSetter x) {
        if (x.cost() == NONE) {
            return "none";
        }
        StringBuilder all = new StringBuilder();
        for (int i = 0; i < x.count(0); i++) {
            int end = look(x, i, 0);
            all.append(end == NONE ? "-" : String.valueOf(end)).append('/').append(look(x, i, 1)).append(' ');
        }
        return all.append(x.last()).toString();
    }

    /** All that can be asked of an object, as one text. */
    static String allOf(StopSetter x) {
        StringBuilder all = new StringBuilder();
        for (int what = 0; what <= 4; what++) {
            all.append(x.count(what)).append(' ');
        }
        for (int line = 0; line < x.count(1); line++) {
            for (int what = 0; what <= 4; what++) {
                all.append(x.go(line, what)).append(' ');
            }
        }
        for (int what = 0; what <= 6; what++) {
            all.append('[').append(looks(x, what)).append("] ");
        }
        all.append(x.cost()).append(' ').append(x.second()).append(' ').append(x.last()).append(' ');
        return all.append(x.sentences()).append(' ').append(x.settled()).toString();
    }
}
