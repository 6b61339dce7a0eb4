import java.nio.charset.StandardCharsets;

/** What the tests share: feeding a text, and counting the answers that are not as due. */
final class Check {
    private int wrong;
    private int done;
    private String about = "";

    void about(String what) {
        about = what;
    }

    int done() {
        return done;
    }

    void due(String call, long got, long want) {
        done++;
        if (got != want) {
            wrong++;
            System.out.println(about + ": " + call + " answered " + got + ", due is " + want);
        }
    }

    void due(String call, boolean got, boolean want) {
        due(call, got ? 1 : 0, want ? 1 : 0);
    }

    /** Two rows of answers, as state(x) gives them, must be alike. */
    void same(String what, int[] got, int[] due) {
        due(what + ": how many answers", got.length, due.length);
        for (int i = 0; i < got.length && i < due.length; i++) {
            due(what + ": answer " + i + " of state", got[i], due[i]);
        }
    }

    void fail(String why) {
        wrong++;
        System.out.println(about + ": " + why);
    }

    /** Ends the test's run: exit code 1 if an answer was wrong. */
    void end() {
        System.out.println(done + " answers, " + wrong + " not as due");
        if (wrong != 0 || done == 0) {
            System.exit(1);
        }
    }

    static void feed(BlinkerCross x, String text) {
        feed(x, text.getBytes(StandardCharsets.ISO_8859_1));
    }

    /** The tape must be empty; a last part of less than twenty bytes is filled up, and taken back. */
    static void feed(BlinkerCross x, byte[] bytes) {
        for (int i = 0; i < bytes.length; i += 20) {
            x.feed(word(bytes, i), word(bytes, i + 4), word(bytes, i + 8), word(bytes, i + 12), word(bytes, i + 16));
        }
        x.back((20 - bytes.length % 20) % 20);
    }

    static int word(byte[] bytes, int from) {
        int word = 0;
        for (int i = from; i < from + 4; i++) {
            word = word << 8 | (i < bytes.length ? bytes[i] & 255 : 32);
        }
        return word;
    }

    static BlinkerCross of(String text) {
        BlinkerCross x = new BlinkerCross();
        feed(x, text);
        int fault = x.read();
        if (fault != 0) {
            throw new IllegalStateException("fault " + fault + " at " + x.place() + " of " + text);
        }
        return x;
    }

    /**
     * How it is, as the face tells it: counts, then what is told of each goer and each road, and which
     * goers all that is TOLD leaves. Nothing has happened between two rows that are alike.
     */
    static int[] state(BlinkerCross x) {
        int roads = x.count(0);
        int goers = x.count(1);
        int[] out = new int[17 + goers * (12 + roads) + 4 * roads];
        int n = 0;
        for (int what = 0; what <= 15; what++) {
            out[n++] = x.count(what);
        }
        for (int g = 0; g < goers; g++) {
            for (int what = 0; what <= 10; what++) {
                out[n++] = x.goer(g, what);
            }
            out[n++] = x.gained(g);
            for (int r = 0; r < roads; r++) {
                out[n++] = x.want(g, r);
            }
        }
        for (int r = 0; r < roads; r++) {
            for (int what = 0; what <= 3; what++) {
                out[n++] = x.road(r, what);
            }
        }
        out[n] = x.who(x.count(10), 1);
        return out;
    }
}
