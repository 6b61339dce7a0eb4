import java.nio.charset.StandardCharsets;
import java.util.ArrayDeque;
import java.util.ArrayList;
import java.util.Arrays;
import java.util.Deque;
import java.util.HashMap;
import java.util.List;
import java.util.Map;
import java.util.regex.Matcher;
import java.util.regex.Pattern;

/**
 * The document once more, in another way: a table-driven reading, laws as trees, everything else by
 * going through all that there is. Slow, and for comparing alone.
 */
public final class Oracle {
    static final int NONE = -1;

    // ---- the text

    static final class Tok {
        final String kind;
        final String text;
        final int at;

        Tok(String kind, String text, int at) {
            this.kind = kind;
            this.text = text;
            this.at = at;
        }
    }

    static final List<String> WORDS = Arrays.asList("road", "goer", "wants", "stands", "crowds", "keeps", "turns",
            "seed", "if", "then", "else", "seen", "want", "next", "wide", "here", "day", "which", "stood", "roads");
    static final List<String> VARS = WORDS.subList(11, 20);
    static final Pattern PIECE = Pattern.compile("[\\t\\n\\r ]*([a-z]+|[0-9]+|[;=+\\-*/<()]|\\z|.)", Pattern.DOTALL);

    /** Ends with a token of the kind "end" or "bad". */
    static List<Tok> tokens(String s) {
        List<Tok> out = new ArrayList<>();
        Matcher m = PIECE.matcher(s);
        int from = 0;
        while (m.find(from)) {
            String t = m.group(1);
            int at = m.start(1);
            from = m.end();
            if (t.isEmpty()) {
                out.add(new Tok("end", "", s.length()));
                return out;
            }
            char c = t.charAt(0);
            if (c >= 'a' && c <= 'z') {
                out.add(new Tok(t.length() > 8 ? "bad" : WORDS.contains(t) ? t : "NAME", t, at));
            } else if (c >= '0' && c <= '9') {
                out.add(new Tok(t.length() > 4 ? "bad" : "INT", t, at));
            } else if (";=+-*/<()".indexOf(c) >= 0) {
                out.add(new Tok(t, t, at));
            } else {
                out.add(new Tok("bad", t, at));
            }
            if (out.get(out.size() - 1).kind.equals("bad")) {
                return out;
            }
        }
        throw new IllegalStateException();
    }

    /** What a symbol of the grammar becomes before a token; null if the token cannot come here. */
    static String[] expand(String symbol, String k) {
        boolean unit = k.equals("INT") || k.equals("(") || VARS.contains(k);
        switch (symbol) {
            case "text":
                if (k.equals("end")) return new String[] {};
                if (k.equals("road")) return new String[] {"road", "NAME", "INT", ";", "text"};
                if (k.equals("goer") || k.equals("wants")) return new String[] {k, "NAME", "NAME", "INT", ";", "text"};
                if (k.equals("seed")) return new String[] {"seed", "INT", ";", "text"};
                if (Arrays.asList("stands", "crowds", "keeps", "turns").contains(k)) {
                    return new String[] {k, "=", "law", ";", "text"};
                }
                return null;
            case "law":
                if (k.equals("if")) return new String[] {"if", "E", "<", "E", "then", "E", "else", "law"};
                return unit ? new String[] {"E"} : null;
            case "E":
                return unit ? new String[] {"P", "E2"} : null;
            case "E2":
                return k.equals("+") || k.equals("-") ? new String[] {k, "P", "E2"} : new String[] {};
            case "P":
                return unit ? new String[] {"U", "P2"} : null;
            case "P2":
                return k.equals("*") || k.equals("/") ? new String[] {k, "U", "P2"} : new String[] {};
            case "U":
                if (k.equals("(")) return new String[] {"(", "E", ")"};
                return unit ? new String[] {k} : null;
            default:
                throw new IllegalStateException(symbol);
        }
    }

    static final List<String> SYMBOLS = Arrays.asList("text", "law", "E", "E2", "P", "P2", "U");

    static int[] firstFault(List<Tok> toks) {
        int[] syntax = syntaxFault(toks);
        int[] room = roomFault(toks, syntax);
        if (syntax != null && (room == null || syntax[1] <= room[1])) {
            return syntax;
        }
        return room;
    }

    static int[] syntaxFault(List<Tok> toks) {
        Deque<String> stack = new ArrayDeque<>();
        stack.push("text");
        for (Tok t : toks) {
            while (!stack.isEmpty() && SYMBOLS.contains(stack.peek())) {
                String[] to = expand(stack.pop(), t.kind);
                if (to == null) {
                    return new int[] {1, t.at};
                }
                for (int i = to.length - 1; i >= 0; i--) {
                    stack.push(to[i]);
                }
            }
            if (stack.isEmpty()) {
                return t.kind.equals("end") ? null : new int[] {1, t.at};
            }
            if (!stack.pop().equals(t.kind)) {
                return new int[] {1, t.at};
            }
        }
        throw new IllegalStateException();
    }

    /** Looks no further than to where the syntax holds. */
    static int[] roomFault(List<Tok> toks, int[] syntax) {
        int roads = 0, goers = 0, wants = 0, ifs = 0, open = 0;
        for (int i = 0; i < toks.size(); i++) {
            Tok t = toks.get(i);
            if (t.kind.equals("end") || syntax != null && t.at >= syntax[1]) {
                return null;
            }
            boolean full = i >= 400;
            switch (t.kind) {
                case "road": full |= ++roads > 6; break;
                case "goer": full |= ++goers > 5; break;
                case "wants": full |= ++wants > 30; break;
                case "if": full |= ++ifs > 4; break;
                case "(": full |= ++open > 6; break;
                case ")": open--; break;
                case ";": ifs = 0; break;
                default: break;
            }
            if (full) {
                return new int[] {2, t.at};
            }
        }
        return null;
    }

    interface Node {
        int at(Map<String, Integer> env) throws DividedByZero;
    }

    static final class DividedByZero extends Exception {
        private static final long serialVersionUID = 1L;
    }

    static final class Law {
        final List<Node[]> ifs = new ArrayList<>();
        Node last;

        int value(Map<String, Integer> env) {
            try {
                for (Node[] f : ifs) {
                    if (f[0].at(env) < f[1].at(env)) {
                        return f[2].at(env);
                    }
                }
                return last.at(env);
            } catch (DividedByZero e) {
                return 0;
            }
        }
    }

    static final class LawReader {
        final List<Tok> toks;
        int i;

        LawReader(List<Tok> toks, int i) {
            this.toks = toks;
            this.i = i;
        }

        boolean next(String kind) {
            if (toks.get(i).kind.equals(kind)) {
                i++;
                return true;
            }
            return false;
        }

        Law law() {
            Law law = new Law();
            while (next("if")) {
                Node a = sum();
                next("<");
                Node b = sum();
                next("then");
                Node c = sum();
                next("else");
                law.ifs.add(new Node[] {a, b, c});
            }
            law.last = sum();
            return law;
        }

        Node sum() {
            Node left = product();
            while (true) {
                Node l = left;
                if (next("+")) {
                    Node r = product();
                    left = env -> l.at(env) + r.at(env);
                } else if (next("-")) {
                    Node r = product();
                    left = env -> l.at(env) - r.at(env);
                } else {
                    return left;
                }
            }
        }

        Node product() {
            Node left = unit();
            while (true) {
                Node l = left;
                if (next("*")) {
                    Node r = unit();
                    left = env -> l.at(env) * r.at(env);
                } else if (next("/")) {
                    Node r = unit();
                    left = env -> divided(l.at(env), r.at(env));
                } else {
                    return left;
                }
            }
        }

        static int divided(int a, int b) throws DividedByZero {
            if (b == 0) {
                throw new DividedByZero();
            }
            return a / b;
        }

        Node unit() {
            if (next("(")) {
                Node n = sum();
                next(")");
                return n;
            }
            Tok t = toks.get(i++);
            if (t.kind.equals("INT")) {
                int v = Integer.parseInt(t.text);
                return env -> v;
            }
            return env -> env.get(t.kind);
        }
    }

    static final class Told {
        final List<String> roadNames = new ArrayList<>();
        final List<String> goerNames = new ArrayList<>();
        final List<Integer> wides = new ArrayList<>();
        final List<Integer> faces = new ArrayList<>();
        final List<Integer> sights = new ArrayList<>();
        final int[][] wants = new int[5][6];
        final Map<String, Law> laws = new HashMap<>();
        int seed;
        int fault;
        int place = NONE;

        Told(String s) {
            for (String[] d : new String[][] {{"stands", "seen"}, {"crowds", "here"}, {"keeps", "0"}, {"turns", "0"}}) {
                laws.put(d[0], new LawReader(tokens(d[1]), 0).law());
            }
            List<Tok> toks = tokens(s);
            int[] f = firstFault(toks);
            if (f != null) {
                fault = f[0];
                place = f[1];
                return;
            }
            int i = 0;
            while (!toks.get(i).kind.equals("end") && fault == 0) {
                i = tell(toks, i);
            }
        }

        void bad(int number, Tok t) {
            if (fault == 0) {
                fault = number;
                place = t.at;
            }
        }

        int tell(List<Tok> toks, int i) {
            int end = i;
            while (!toks.get(end).kind.equals(";")) {
                end++;
            }
            Tok number = toks.get(end - 1);
            Tok one = toks.get(i + 1);
            Tok two = toks.get(i + 2);
            switch (toks.get(i).kind) {
                case "road":
                    if (roadNames.contains(one.text) || goerNames.contains(one.text)) bad(3, one);
                    if (!number.text.matches("0*[1-9]")) bad(5, number);
                    roadNames.add(one.text);
                    wides.add(Integer.parseInt(number.text));
                    break;
                case "goer":
                    if (roadNames.contains(one.text) || goerNames.contains(one.text)) bad(3, one);
                    if (!roadNames.contains(two.text)) bad(4, two);
                    if (!number.text.matches("0*[1-6]")) bad(5, number);
                    goerNames.add(one.text);
                    faces.add(roadNames.indexOf(two.text));
                    sights.add(Integer.parseInt(number.text));
                    break;
                case "wants":
                    if (!goerNames.contains(one.text)) bad(4, one);
                    if (!roadNames.contains(two.text)) bad(4, two);
                    if (!number.text.matches("0*[0-9]?[0-9]")) bad(5, number);
                    if (fault == 0) {
                        wants[goerNames.indexOf(one.text)][roadNames.indexOf(two.text)] = Integer.parseInt(number.text);
                    }
                    break;
                case "seed":
                    seed = Integer.parseInt(number.text);
                    break;
                default:
                    laws.put(toks.get(i).kind, new LawReader(toks, i + 2).law());
                    break;
            }
            return end + 1;
        }
    }

    // ---- how it is

    static final class World {
        final int n;
        int[] face, sight, set, stood, gained;
        int[][] want = new int[5][6];
        int day;

        World(int n) {
            this.n = n;
            face = new int[n];
            sight = new int[n];
            set = new int[n];
            stood = new int[n];
            gained = new int[n];
        }

        World copy() {
            World w = new World(n);
            w.face = face.clone();
            w.sight = sight.clone();
            w.set = set.clone();
            w.stood = stood.clone();
            w.gained = gained.clone();
            for (int g = 0; g < 5; g++) {
                w.want[g] = want[g].clone();
            }
            w.day = day;
            return w;
        }
    }

    private String tape = "";
    private Told text = new Told("");
    private World now = new World(0);
    private int place = NONE;
    private final Deque<World> undone = new ArrayDeque<>();
    private final List<int[]> known = new ArrayList<>();
    private final World[] slots = new World[3];

    private int roads() {
        return text.roadNames.size();
    }

    private int goers() {
        return text.goerNames.size();
    }

    private List<Integer> sees(World w, int g) {
        List<Integer> out = new ArrayList<>();
        for (int j = 0; j < w.sight[g] && out.size() < roads(); j++) {
            out.add((w.face[g] + j) % roads());
        }
        return out;
    }

    private int best(World w, int g, List<Integer> among) {
        int best = NONE;
        for (int want = 99; want >= 0 && best == NONE; want--) {
            for (int r : among) {
                if (best == NONE && w.want[g][r] == want) {
                    best = r;
                }
            }
        }
        return best;
    }

    private int choice(World w, int g) {
        return best(w, g, sees(w, g));
    }

    private int howMany(World w, int road) {
        int k = 0;
        for (int g = 0; g < goers(); g++) {
            k += choice(w, g) == road ? 1 : 0;
        }
        return k;
    }

    private Map<String, Integer> env(World w, int g) {
        int c = choice(w, g);
        int next = 0;
        for (int r : sees(w, g)) {
            if (r != c && w.want[g][r] > next) {
                next = w.want[g][r];
            }
        }
        Map<String, Integer> env = new HashMap<>();
        env.put("seen", sees(w, g).size());
        env.put("want", w.want[g][c]);
        env.put("next", next);
        env.put("wide", text.wides.get(c));
        env.put("here", howMany(w, c));
        env.put("day", w.day);
        env.put("which", g);
        env.put("stood", w.stood[g]);
        env.put("roads", roads());
        return env;
    }

    private int stands(World w, int g) {
        return Math.min(99, Math.max(0, text.laws.get("stands").value(env(w, g))));
    }

    private int turns(World w, int g) {
        return Math.min(100, Math.max(0, text.laws.get("turns").value(env(w, g))));
    }

    private boolean keeps(World w, int g) {
        return text.laws.get("keeps").value(env(w, g)) > 0;
    }

    private int crowding(World w, int g, int r, int k) {
        Map<String, Integer> env = env(w, g);
        env.put("want", w.want[g][r]);
        env.put("wide", text.wides.get(r));
        env.put("here", k);
        env.put("next", 0);
        return Math.min(99, Math.max(0, text.laws.get("crowds").value(env)));
    }

    private int gain(World w, int g, int r, int k) {
        return w.want[g][r] - crowding(w, g, r, k);
    }

    private int missed(World w, int g) {
        return Arrays.stream(w.want[g], 0, roads()).max().getAsInt() - w.want[g][choice(w, g)];
    }

    static int lot(int n, int seed, int which) {
        int h = seed;
        for (int it : new int[] {207, which}) {
            h = (h ^ it) * 1103515245 + 12345;
            h = h ^ (h >>> 15);
        }
        return (h >>> 1) % n;
    }

    private World nextDay(World w, int seed) {
        World next = w.copy();
        for (int g = 0; g < goers(); g++) {
            int c = choice(w, g);
            next.stood[g] = w.stood[g] + stands(w, g);
            next.gained[g] = w.gained[g] + gain(w, g, c, howMany(w, c));
            next.sight[g] = keeps(w, g) ? (w.sight[g] == 1 ? 1 : w.sight[g] - 1)
                    : (w.sight[g] == w.set[g] ? w.sight[g] : w.sight[g] + 1);
            if (lot(100, seed, 8 * w.day + g) < turns(w, g)) {
                next.face[g] = (w.face[g] + 1) % roads();
            }
        }
        next.day = w.day + 1;
        return next;
    }

    private World in(int n, int seed) {
        World w = now;
        for (int i = 0; i < n; i++) {
            w = nextDay(w, seed);
        }
        return w;
    }

    private boolean noGoer(int g) {
        return g < 0 || g >= goers();
    }

    private boolean noRoad(int r) {
        return r < 0 || r >= roads();
    }

    // ---- the face

    public int feed(int a, int b, int c, int d, int e) {
        if (tape.length() + 20 > 2000) {
            return NONE;
        }
        byte[] bytes = java.nio.ByteBuffer.allocate(20).putInt(a).putInt(b).putInt(c).putInt(d).putInt(e).array();
        tape = tape + new String(bytes, StandardCharsets.ISO_8859_1);
        return tape.length();
    }

    public int back(int n) {
        if (n < 0 || n > tape.length()) {
            return NONE;
        }
        tape = tape.substring(0, tape.length() - n);
        return tape.length();
    }

    public int read() {
        Told t = new Told(tape);
        tape = "";
        place = t.place;
        if (t.fault == 0) {
            text = t;
            now = new World(goers());
            for (int g = 0; g < goers(); g++) {
                now.face[g] = t.faces.get(g);
                now.sight[g] = t.sights.get(g);
                now.set[g] = t.sights.get(g);
                now.want[g] = t.wants[g].clone();
            }
            undone.clear();
            known.clear();
            Arrays.fill(slots, null);
        }
        return t.fault;
    }

    public int place() {
        return place;
    }

    public int road(int road, int what) {
        if (noRoad(road) || what < 0 || what > 3) {
            return NONE;
        }
        int bits = 0, wants = 0;
        for (int g = 0; g < goers(); g++) {
            bits += sees(now, g).contains(road) ? 1 << g : 0;
            wants += now.want[g][road];
        }
        return new int[] {text.wides.get(road), howMany(now, road), bits, wants}[what];
    }

    public int goer(int goer, int what) {
        if (noGoer(goer) || what < 0 || what > 10) {
            return NONE;
        }
        int bits = 0;
        for (int r : sees(now, goer)) {
            bits += 1 << r;
        }
        return new int[] {now.face[goer], now.sight[goer], now.set[goer], choice(now, goer), stands(now, goer),
                missed(now, goer), sees(now, goer).size(), now.stood[goer], keeps(now, goer) ? 1 : 0,
                turns(now, goer), bits}[what];
    }

    public int gained(int goer) {
        return noGoer(goer) ? -100000 : now.gained[goer];
    }

    public int want(int goer, int road) {
        return noGoer(goer) || noRoad(road) ? NONE : now.want[goer][road];
    }

    public int crowds(int goer, int road, int k) {
        return noGoer(goer) || noRoad(road) || k < 1 || k > 5 ? NONE : crowding(now, goer, road, k);
    }

    private World change() {
        undone.addLast(now.copy());
        if (undone.size() > 40) {
            undone.removeFirst();
        }
        return now;
    }

    public boolean flap(int goer, int sight) {
        if (noGoer(goer) || sight < 1 || sight > 6 || now.sight[goer] == sight && now.set[goer] == sight) {
            return false;
        }
        change().sight[goer] = sight;
        now.set[goer] = sight;
        return true;
    }

    public boolean turn(int goer, int road) {
        if (noGoer(goer) || noRoad(road) || now.face[goer] == road) {
            return false;
        }
        change().face[goer] = road;
        return true;
    }

    public boolean wish(int goer, int road, int want) {
        if (noGoer(goer) || noRoad(road) || want < 0 || want > 99 || now.want[goer][road] == want) {
            return false;
        }
        change().want[goer][road] = want;
        return true;
    }

    public int days(int n) {
        if (n < 0 || n > 60) {
            return NONE;
        }
        if (n > 0) {
            change();
            now = in(n, text.seed);
        }
        return now.day;
    }

    public boolean undo() {
        if (undone.isEmpty()) {
            return false;
        }
        now = undone.removeLast();
        return true;
    }

    /** All rows with the i-th from 0 on and less than sizes[i], the lowest for the first one first. */
    private static List<int[]> rows(int[] sizes) {
        List<int[]> out = new ArrayList<>();
        out.add(new int[sizes.length]);
        for (int i = 0; i < sizes.length; i++) {
            List<int[]> longer = new ArrayList<>();
            for (int[] row : out) {
                for (int v = 0; v < sizes[i]; v++) {
                    int[] copy = row.clone();
                    copy[i] = v;
                    longer.add(copy);
                }
            }
            out = longer;
        }
        return out;
    }

    private int[] sizes(int each) {
        int[] sizes = new int[goers()];
        Arrays.fill(sizes, each);
        return sizes;
    }

    public int plan(int t, int i) {
        if (t < 0 || t > 999 || i < -2 || i >= goers()) {
            return NONE;
        }
        long least = Long.MAX_VALUE;
        int[] best = null;
        for (int[] row : rows(sizes(roads()))) {
            World w = now.copy();
            for (int g = 0; g < goers(); g++) {
                w.sight[g] = row[g] + 1;
            }
            int stands = 0, missed = 0;
            for (int g = 0; g < goers(); g++) {
                stands += stands(w, g);
                missed += missed(w, g);
            }
            if (stands <= t && missed * 10000L + stands < least) {
                least = missed * 10000L + stands;
                best = row;
            }
        }
        if (best == null) {
            return -3;
        }
        return i == NONE ? (int) (least / 10000) : i == -2 ? (int) (least % 10000) : best[i] + 1;
    }

    private List<int[]> givings() {
        int[] sizes = sizes(0);
        List<List<Integer>> seen = new ArrayList<>();
        for (int g = 0; g < goers(); g++) {
            List<Integer> s = new ArrayList<>(sees(now, g));
            s.sort(null);
            seen.add(s);
            sizes[g] = s.size();
        }
        List<int[]> out = rows(sizes);
        for (int[] row : out) {
            for (int g = 0; g < goers(); g++) {
                row[g] = seen.get(g).get(row[g]);
            }
        }
        return out;
    }

    private final Map<String, Integer> memo = new HashMap<>();

    private int gainIn(int[] giving, int g) {
        int k = 0;
        for (int r : giving) {
            k += r == giving[g] ? 1 : 0;
        }
        String key = g + " " + giving[g] + " " + k;
        int count = k;
        return memo.computeIfAbsent(key, s -> gain(now, g, giving[g], count));
    }

    private boolean isRest(int[] giving) {
        for (int g = 0; g < goers(); g++) {
            for (int r : sees(now, g)) {
                int[] other = giving.clone();
                other[g] = r;
                if (gainIn(other, g) > gainIn(giving, g)) {
                    return false;
                }
            }
        }
        return true;
    }

    private int gainOf(int[] giving) {
        int sum = 0;
        for (int g = 0; g < goers(); g++) {
            sum += gainIn(giving, g);
        }
        return sum;
    }

    public int rests() {
        memo.clear();
        int n = 0;
        for (int[] giving : givings()) {
            n += isRest(giving) ? 1 : 0;
        }
        return n;
    }

    private int bestOf(int i, boolean restsAlone) {
        if (i < NONE || i >= goers()) {
            return -100000;
        }
        memo.clear();
        int[] best = null;
        for (int[] giving : givings()) {
            if ((best == null || gainOf(giving) > gainOf(best)) && (!restsAlone || isRest(giving))) {
                best = giving;
            }
        }
        return best == null ? -100000 : i == NONE ? gainOf(best) : best[i];
    }

    public int bestRest(int i) {
        return bestOf(i, true);
    }

    public int bestGiving(int i) {
        return bestOf(i, false);
    }

    public int settles() {
        memo.clear();
        int[] has = new int[goers()];
        for (int g = 0; g < goers(); g++) {
            has[g] = choice(now, g);
        }
        for (int round = 0; round <= 20; round++) {
            int[] before = has.clone();
            for (int g = 0; g < goers(); g++) {
                List<Integer> order = new ArrayList<>();
                order.add(has[g]);
                order.addAll(sees(now, g));
                int[] best = null;
                for (int r : order) {
                    int[] other = has.clone();
                    other[g] = r;
                    if (best == null || gainIn(other, g) > gainIn(best, g)) {
                        best = other;
                    }
                }
                has = best;
            }
            if (Arrays.equals(before, has)) {
                return round;
            }
        }
        return -2;
    }

    public int oneEach(int i) {
        if (i < NONE || i >= goers()) {
            return NONE;
        }
        int most = -1;
        int[] best = null;
        for (int[] row : rows(sizes(roads() + 1))) {
            int sum = 0, used = 0;
            boolean fits = true;
            for (int g = 0; g < goers(); g++) {
                if (row[g] > 0) {
                    fits &= (used >> row[g] & 1) == 0;
                    used |= 1 << row[g];
                    sum += now.want[g][row[g] - 1];
                }
            }
            if (fits && sum > most) {
                most = sum;
                best = row;
            }
        }
        return i == NONE ? most : best[i] == 0 ? -2 : best[i] - 1;
    }

    public int closing() {
        int bits = 0;
        for (int r = 0; r < roads(); r++) {
            int[] takes = new int[goers()];
            for (int g = 0; g < goers(); g++) {
                List<Integer> others = sees(now, g);
                others.remove((Integer) r);
                takes[g] = best(now, g, others);
            }
            int sum = 0;
            for (int g = 0; g < goers(); g++) {
                int mine = takes[g];
                sum += mine == NONE ? 0 : gain(now, g, mine, (int) Arrays.stream(takes).filter(x -> x == mine).count());
            }
            bits |= sum > count(5) ? 1 << r : 0;
        }
        return bits;
    }

    /** Expected, as a fraction's numerator over 10 to the power of n. */
    private static java.math.BigDecimal atBest(int n, int c) {
        java.math.BigDecimal sum = java.math.BigDecimal.ZERO;
        for (int x = 0; x < 10; x++) {
            java.math.BigDecimal v = java.math.BigDecimal.valueOf(x);
            if (n > 1) {
                v = v.max(atBest(n - 1, c));
            }
            sum = sum.add(v);
        }
        return sum.movePointLeft(1).subtract(java.math.BigDecimal.valueOf(c));
    }

    public int search(int n, int c) {
        if (n < 1 || n > 6 || c < 0 || c > 9) {
            return -100000000;
        }
        return atBest(n, c).movePointRight(n).intValueExact();
    }

    public int bar(int n, int c) {
        if (n < 1 || n > 6 || c < 0 || c > 9) {
            return NONE;
        }
        for (int w = 0; w < 10; w++) {
            if (n == 1 || java.math.BigDecimal.valueOf(w).compareTo(atBest(n - 1, c)) >= 0) {
                return w;
            }
        }
        return 10;
    }

    public int enough(int goer, int road) {
        if (noGoer(goer) || noRoad(road)) {
            return NONE;
        }
        for (int want = 0; want <= 99; want++) {
            World w = now.copy();
            w.want[goer][road] = want;
            if (choice(w, goer) == road) {
                return want;
            }
        }
        return -2;
    }

    public int open(int goer) {
        if (noGoer(goer)) {
            return NONE;
        }
        for (int s = 1;; s++) {
            World w = now.copy();
            w.sight[goer] = s;
            if (missed(w, goer) == 0) {
                return s;
            }
        }
    }

    public int crowded(int what) {
        if (what < 0 || what > 1) {
            return NONE;
        }
        if (roads() == 0) {
            return -2;
        }
        for (int k = goers();; k--) {
            for (int r = 0; r < roads(); r++) {
                if (howMany(now, r) == k) {
                    return what == 0 ? r : k;
                }
            }
        }
    }

    public int same(int goer) {
        if (noGoer(goer)) {
            return NONE;
        }
        int bits = 0;
        for (int g = 0; g < goers(); g++) {
            bits += g != goer && choice(now, g) == choice(now, goer) ? 1 << g : 0;
        }
        return bits;
    }

    public int then(int goer, int n, int what) {
        if (noGoer(goer) || n < 0 || n > 60 || what < 0 || what > 2) {
            return NONE;
        }
        World w = in(n, text.seed);
        return new int[] {w.stood[goer], w.face[goer], w.sight[goer]}[what];
    }

    public int gainedIn(int goer, int n) {
        return noGoer(goer) || n < 0 || n > 60 ? -100000 : in(n, text.seed).gained[goer];
    }

    public int year(int goer, int road, int n, int s) {
        if (noGoer(goer) || noRoad(road) || n < 0 || n > 60 || s < 1 || s > 20) {
            return NONE;
        }
        int k = 0;
        for (int seed = text.seed; seed < text.seed + s; seed++) {
            k += choice(in(n, seed), goer) == road ? 1 : 0;
        }
        return k;
    }

    private int mark(int m, int g) {
        return new int[] {choice(now, g), stands(now, g), missed(now, g), sees(now, g).size(), now.stood[g]}[m];
    }

    public int tell(int mark, int v, boolean so) {
        if (known.size() == 20 || mark < 0 || mark > 4 || v < 0 || v > 99) {
            return NONE;
        }
        known.add(new int[] {mark, v, so ? 1 : 0});
        return known.size() - 1;
    }

    public int forget() {
        int n = known.size();
        known.clear();
        return n;
    }

    private List<Integer> left(List<int[]> facts) {
        List<Integer> out = new ArrayList<>();
        for (int g = 0; g < goers(); g++) {
            boolean all = true;
            for (int[] f : facts) {
                all &= mark(f[0], g) >= f[1] == (f[2] == 1);
            }
            if (all) {
                out.add(g);
            }
        }
        return out;
    }

    public int who(int k, int what) {
        if (k < 0 || k > known.size() || what < 0 || what > 1) {
            return NONE;
        }
        List<Integer> who = left(known.subList(0, k));
        return what == 0 ? who.size() : who.stream().mapToInt(g -> 1 << g).sum();
    }

    public int look(int k, int v) {
        if (k < 0 || k > known.size() || v < 0 || v > 99) {
            return NONE;
        }
        if (left(known.subList(0, k)).isEmpty()) {
            return -2;
        }
        int best = -1, fewest = 99;
        for (int m = 0; m < 5; m++) {
            int worst = 0;
            for (int so = 0; so < 2; so++) {
                List<int[]> facts = new ArrayList<>(known.subList(0, k));
                facts.add(new int[] {m, v, so});
                worst = Math.max(worst, left(facts).size());
            }
            if (worst < fewest) {
                fewest = worst;
                best = m;
            }
        }
        return best;
    }

    public boolean hold(int slot) {
        if (slot < 0 || slot > 2) {
            return false;
        }
        slots[slot] = now.copy();
        return true;
    }

    public boolean restore(int slot) {
        if (slot < 0 || slot > 2 || slots[slot] == null) {
            return false;
        }
        now = slots[slot].copy();
        undone.clear();
        return true;
    }

    public int count(int what) {
        int stands = 0, missed = 0, gain = 0, chosen = 0, seen = 0, held = 0;
        for (int g = 0; g < goers(); g++) {
            int c = choice(now, g);
            stands += stands(now, g);
            missed += missed(now, g);
            gain += gain(now, g, c, howMany(now, c));
            chosen |= 1 << c;
            for (int r : sees(now, g)) {
                seen |= 1 << r;
            }
        }
        for (World w : slots) {
            held += w == null ? 0 : 1;
        }
        int[] all = {roads(), goers(), now.day, stands, missed, gain, chosen, seen, tape.length(), undone.size(),
                known.size(), held, Arrays.stream(now.stood).sum(), Arrays.stream(now.gained).sum(),
                Arrays.stream(now.sight).sum(), Arrays.stream(now.set).sum()};
        return what < 0 || what >= all.length ? -100000 : all[what];
    }
}
