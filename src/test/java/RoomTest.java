import java.lang.management.ManagementFactory;

/** The room that all calls of a run share: what an object takes, and that calls take nothing. */
public final class RoomTest {
    /** 600,000 objects and 7.3 million elements are some 58 million bytes for 512 calls of a run. */
    private static final long MOST_FOR_NEW = 100_000;
    private static final long MOST_FOR_RUN = 100_000;

    public static void main(String[] args) {
        com.sun.management.ThreadMXBean bean =
                (com.sun.management.ThreadMXBean) ManagementFactory.getThreadMXBean();
        String text = dearText();
        run(new BlinkerCross(), text);
        long me = Thread.currentThread().getId();
        long start = bean.getThreadAllocatedBytes(me);
        BlinkerCross x = new BlinkerCross();
        long made = bean.getThreadAllocatedBytes(me);
        int[] words = words(text);
        long begin = bean.getThreadAllocatedBytes(me);
        calls(x, words, text.length());
        long end = bean.getThreadAllocatedBytes(me);
        System.out.println("new: " + (made - start) + " bytes, 512 calls: " + (end - begin) + " bytes");
        if (made - start > MOST_FOR_NEW || end - begin > MOST_FOR_RUN) {
            System.exit(1);
        }
    }

    private static void run(BlinkerCross x, String text) {
        calls(x, words(text), text.length());
    }

    /** Six roads and five goers who see them all, and laws of all the tokens that are left. */
    private static String dearText() {
        StringBuilder out = new StringBuilder();
        for (int r = 0; r < 6; r++) {
            out.append("road r").append((char) ('a' + r)).append(" 3;");
        }
        for (int g = 0; g < 5; g++) {
            out.append("goer g").append((char) ('a' + g)).append(" ra 6;");
        }
        for (String law : new String[] {"stands", "crowds", "keeps", "turns"}) {
            out.append(law).append("=seen").append("+here*day".repeat(18)).append(";");
        }
        return out.toString();
    }

    private static int[] words(String text) {
        byte[] bytes = text.getBytes(java.nio.charset.StandardCharsets.ISO_8859_1);
        int[] out = new int[(bytes.length + 19) / 20 * 5];
        for (int i = 0; i < out.length; i++) {
            out[i] = Check.word(bytes, 4 * i);
        }
        return out;
    }

    private static void calls(BlinkerCross x, int[] words, int length) {
        for (int i = 0; i + 4 < words.length; i += 5) {
            x.feed(words[i], words[i + 1], words[i + 2], words[i + 3], words[i + 4]);
        }
        x.back(words.length * 4 - length);
        if (x.read() != 0) {
            System.out.println("the text has a fault at " + x.place());
            System.exit(1);
        }
        for (int i = 0; i < 23; i++) {
            x.wish(i % 5, i % 6, i);
            x.plan(40 + i, 0);
            x.rests();
            x.bestGiving(0);
            x.settles();
            x.oneEach(0);
            x.closing();
            x.year(0, 0, 60, 20);
            x.gainedIn(0, 60);
            x.tell(i % 5, i, true);
            x.who(i % 20, 0);
            x.look(0, i);
            x.hold(i % 3);
            x.days(60);
            x.search(6, i % 10);
            x.bar(6, i % 10);
            x.undo();
            x.restore(i % 3);
        }
    }
}
