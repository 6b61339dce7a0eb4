import java.lang.reflect.Method;
import java.nio.charset.StandardCharsets;
import java.util.ArrayList;
import java.util.Arrays;
import java.util.List;
import java.util.Random;

/** Runs of calls by fixed seeds, answered by the class and by the Oracle: all answers must be alike. */
public final class OracleTest {
    private static final int RUNS = 500;
    private static final int CALLS = 130;
    /** Of 512 that an object is used for: a text of 2,000 bytes, read, takes 104. */
    private static final int MOST_MADE = 512 - 104;
    private static int wrong;
    private static int done;
    private static final int[] faults = new int[6];

    public static void main(String[] args) throws ReflectiveOperationException {
        int runs = args.length > 0 ? Integer.parseInt(args[0]) : RUNS;
        int first = args.length > 1 ? Integer.parseInt(args[1]) : 0;
        for (int seed = first; seed < first + runs && wrong < 20; seed++) {
            new Run(seed).go();
        }
        System.out.println(done + " answers, " + wrong + " not as due; reads by fault " + Arrays.toString(faults));
        if (wrong != 0 || done == 0) {
            System.exit(1);
        }
    }

    private static final class Run {
        final Random random;
        final Texts texts;
        final int seed;
        final BlinkerCross x = new BlinkerCross();
        final Oracle y = new Oracle();
        final List<String> story = new ArrayList<>();
        int dear;
        int made;

        Run(int seed) {
            this.seed = seed;
            random = new Random(seed);
            texts = new Texts(random);
        }

        void go() throws ReflectiveOperationException {
            if (random.nextInt(10) > 0) {
                read(texts.valid());
            }
            for (int i = 0; i < CALLS && made < MOST_MADE && wrong < 20; i++) {
                int kind = random.nextInt(100);
                if (kind < 2) {
                    read(texts.valid());
                } else if (kind < 6) {
                    read(texts.spoilt());
                } else {
                    anyCall();
                }
            }
        }

        void read(String text) throws ReflectiveOperationException {
            both("back", y.count(8));
            byte[] bytes = text.getBytes(StandardCharsets.ISO_8859_1);
            for (int i = 0; i < bytes.length; i += 20) {
                both("feed", Check.word(bytes, i), Check.word(bytes, i + 4), Check.word(bytes, i + 8),
                        Check.word(bytes, i + 12), Check.word(bytes, i + 16));
            }
            both("back", (20 - bytes.length % 20) % 20);
            story.add("TEXT " + text);
            faults[(Integer) both("read")]++;
            both("place");
        }

        void anyCall() throws ReflectiveOperationException {
            Method[] all = BlinkerCross.class.getDeclaredMethods();
            Arrays.sort(all, (a, b) -> a.getName().compareTo(b.getName()));
            List<Method> face = new ArrayList<>();
            for (Method m : all) {
                if (java.lang.reflect.Modifier.isPublic(m.getModifiers())) {
                    face.add(m);
                }
            }
            Method m = face.get(random.nextInt(face.size()));
            boolean isDear = Arrays.asList("plan", "rests", "bestRest", "bestGiving", "year", "oneEach").contains(m.getName());
            if (m.getName().equals("read") || isDear && dear++ > 12) {
                return;
            }
            both(m.getName(), arguments(m));
        }

        Object[] arguments(Method m) {
            Object[] out = new Object[m.getParameterCount()];
            for (int i = 0; i < out.length; i++) {
                out[i] = m.getParameterTypes()[i] == boolean.class ? (Object) random.nextBoolean()
                        : (Object) number(m.getName(), i);
            }
            return out;
        }

        int number(String name, int i) {
            if (random.nextInt(60) == 0) {
                int[] odd = {Integer.MIN_VALUE, Integer.MAX_VALUE, -100, 1000, -3, 61, 100, 21};
                return odd[random.nextInt(odd.length)];
            }
            switch (name + i) {
                case "plan0":
                    return random.nextInt(60);
                case "plan1":
                    return random.nextInt(8) - 2;
                case "wish2":
                case "tell1":
                case "look1":
                    return random.nextInt(3) == 0 ? random.nextInt(103) - 1 : random.nextInt(10);
                case "days0":
                    return random.nextInt(8);
                case "then1":
                case "gainedIn1":
                    return random.nextInt(20);
                case "year2":
                    return random.nextInt(6);
                case "year3":
                    return random.nextInt(5);
                case "goer1":
                case "count0":
                    return random.nextInt(18) - 1;
                case "search1":
                case "bar1":
                    return random.nextInt(12) - 1;
                case "hold0":
                case "restore0":
                    return random.nextInt(4);
                case "feed0": case "feed1": case "feed2": case "feed3": case "feed4":
                    return random.nextInt();
                default:
                    return random.nextInt(8) - 1;
            }
        }

        Object both(String name, Object... args) throws ReflectiveOperationException {
            Class<?>[] types = new Class<?>[args.length];
            for (int i = 0; i < args.length; i++) {
                types[i] = args[i] instanceof Boolean ? boolean.class : int.class;
            }
            Object got = BlinkerCross.class.getMethod(name, types).invoke(x, args);
            Object due = Oracle.class.getMethod(name, types).invoke(y, args);
            String call = name + Arrays.toString(args) + " " + got;
            if (!name.equals("feed") && !name.equals("back")) {
                story.add(call);
            }
            done++;
            made++;
            if (!got.equals(due)) {
                wrong++;
                System.out.println("seed " + seed + ": " + call + ", due is " + due + "\n  " + String.join("\n  ", story));
            }
            return due;
        }
    }
}
