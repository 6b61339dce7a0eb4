/**
 * A crossing with roads round about and goers who choose among the roads that their flaps let them
 * see. The promises are told in the document; README.md says how to use the class.
 */
public final class BlinkerCross {
    public static final int NONE = -1;

    private static final int NO_GAIN = -100000;
    private static final int NO_SEARCH = -100000000;

    private static final int MOST_BYTES = 2000;
    private static final int MOST_TOKENS = 400;
    private static final int MOST_ROADS = 6;
    private static final int MOST_GOERS = 5;
    private static final int MOST_WANTS = 30;
    private static final int MOST_IFS = 4;
    private static final int MOST_NESTED = 6;
    private static final int MOST_LETTERS = 8;
    private static final int MOST_DIGITS = 4;

    private static final int MOST_WIDE = 9;
    private static final int MOST_SIGHT = 6;
    private static final int MOST_WANT = 99;
    private static final int MOST_STANDS = 99;
    private static final int MOST_CROWDS = 99;
    private static final int MOST_TURNS = 100;
    private static final int MOST_DAYS = 60;
    private static final int MOST_SEEDS = 20;
    private static final int MOST_TIME = 999;
    private static final int MOST_ROUNDS = 20;
    private static final int MOST_LOOKS = 6;
    private static final int MOST_COST = 9;
    private static final int MOST_TOLD = 20;
    private static final int MOST_UNDONE = 40;
    private static final int SLOTS = 3;
    private static final int MARKS = 5;

    private static final int SYNTAX = 1;
    private static final int ROOM = 2;
    private static final int TWICE = 3;
    private static final int NAMELESS = 4;
    private static final int WRONG = 5;

    /** The words in quotes, each in a cell of eight signs; a word's kind of token is its cell's number. */
    private static final String WORDS =
            "road    goer    wants   stands  crowds  keeps   turns   seed    if      then    else    seen    want    next    wide    here    day     which   stood   roads   ";
    private static final int WORD_COUNT = 20;
    private static final int T_ROAD = 0;
    private static final int T_GOER = 1;
    private static final int T_WANTS = 2;
    private static final int T_STANDS = 3;
    private static final int T_TURNS = 6;
    private static final int T_SEED = 7;
    private static final int T_IF = 8;
    private static final int T_THEN = 9;
    private static final int T_ELSE = 10;
    private static final int T_SEEN = 11;
    private static final int T_ROADS = 19;
    private static final int T_NAME = 20;
    private static final int T_INT = 21;
    private static final String SIGNS = ";=+-*/<()";
    private static final int T_SEMICOLON = 22;
    private static final int T_EQUALS = 23;
    private static final int T_PLUS = 24;
    private static final int T_MINUS = 25;
    private static final int T_TIMES = 26;
    private static final int T_OVER = 27;
    private static final int T_LESS = 28;
    private static final int T_OPEN = 29;
    private static final int T_CLOSE = 30;
    private static final int T_END = 31;
    private static final int T_NO_TOKEN = 32;

    private static final int LAWS = 4;
    private static final int STANDS = 0;
    private static final int CROWDS = 1;
    private static final int KEEPS = 2;
    private static final int TURNS = 3;

    private static final int VARS = 9;
    private static final int V_SEEN = 0;
    private static final int V_WANT = 1;
    private static final int V_NEXT = 2;
    private static final int V_WIDE = 3;
    private static final int V_HERE = 4;
    private static final int V_DAY = 5;
    private static final int V_WHICH = 6;
    private static final int V_STOOD = 7;
    private static final int V_ROADS = 8;

    /** A law's code has one cell a token at most, beside the four laws that hold if none is told. */
    private static final int CODE = MOST_TOKENS + 2 * LAWS;
    private static final int C_INT = 0;
    private static final int C_VAR = 1;
    private static final int C_TEST = 2;
    private static final int C_END = 3;
    private static final int C_PLUS = 4;
    private static final int C_MINUS = 5;
    private static final int C_TIMES = 6;
    private static final int C_OVER = 7;

    /** Seven levels of brackets hold a sum and a product each, a comparison one number more. */
    private static final int STACK = 32;

    /** All that goes on stands in one row of cells, so that it is undone and held by one copy. */
    private static final int FACE = 0;
    private static final int SIGHT = FACE + MOST_GOERS;
    private static final int SET = SIGHT + MOST_GOERS;
    private static final int STOOD = SET + MOST_GOERS;
    private static final int GAINED = STOOD + MOST_GOERS;
    private static final int DAY = GAINED + MOST_GOERS;
    private static final int WANT = DAY + 1;
    private static final int CELLS = WANT + MOST_WANTS;

    private final Tape tape;
    private final Text text;
    private final Parser parser;
    private final Scene scene;
    private final Laws laws;
    private final Days time;
    private final Plan planning;
    private final Givings givings;
    private final Sharing sharing;
    private final Told told;
    private final History history;

    public BlinkerCross() {
        tape = new Tape();
        text = new Text();
        parser = new Parser(tape);
        scene = new Scene(text);
        laws = new Laws(text);
        time = new Days(text, laws);
        planning = new Plan(text, scene, laws);
        givings = new Givings(text, scene, laws);
        sharing = new Sharing(text, scene);
        told = new Told(text, scene, laws);
        history = new History();
    }

    // ---- the tape and the text

    public int feed(int a, int b, int c, int d, int e) {
        if (tape.length + 20 > MOST_BYTES) {
            return NONE;
        }
        tape.put(a);
        tape.put(b);
        tape.put(c);
        tape.put(d);
        tape.put(e);
        return tape.length;
    }

    public int back(int n) {
        if (n < 0 || n > tape.length) {
            return NONE;
        }
        tape.length -= n;
        return tape.length;
    }

    public int read() {
        int fault = parser.check();
        tape.length = 0;
        if (fault == 0) {
            text.become(parser.draft);
            scene.begin();
            history.clear();
            told.size = 0;
        }
        return fault;
    }

    public int place() {
        return parser.place;
    }

    // ---- how it is

    public int road(int road, int what) {
        if (!isRoad(road)) {
            return NONE;
        }
        switch (what) {
            case 0:
                return text.wide[road];
            case 1:
                return scene.takers[road];
            case 2:
                return scene.seersOf(road);
            case 3:
                return scene.wantsFor(road);
            default:
                return NONE;
        }
    }

    public int goer(int goer, int what) {
        if (!isGoer(goer)) {
            return NONE;
        }
        laws.meet(scene, goer);
        switch (what) {
            case 0:
                return scene.cells[FACE + goer];
            case 1:
                return scene.cells[SIGHT + goer];
            case 2:
                return scene.cells[SET + goer];
            case 3:
                return scene.choice[goer];
            case 4:
                return laws.heldStands();
            case 5:
                return scene.missedBy(goer, scene.choice[goer]);
            case 6:
                return scene.seenCount(goer);
            case 7:
                return scene.cells[STOOD + goer];
            case 8:
                return laws.isKeeping() ? 1 : 0;
            case 9:
                return laws.heldTurns();
            case 10:
                return scene.seenBits(goer);
            default:
                return NONE;
        }
    }

    public int gained(int goer) {
        return isGoer(goer) ? scene.cells[GAINED + goer] : NO_GAIN;
    }

    public int want(int goer, int road) {
        return isGoer(goer) && isRoad(road) ? scene.wantOf(goer, road) : NONE;
    }

    public int crowds(int goer, int road, int k) {
        if (!isGoer(goer) || !isRoad(road) || k < 1 || k > MOST_GOERS) {
            return NONE;
        }
        return laws.crowdsOf(scene, goer, road, k);
    }

    // ---- by hand

    public boolean flap(int goer, int sight) {
        if (!isGoer(goer) || sight < 1 || sight > MOST_SIGHT) {
            return false;
        }
        if (scene.cells[SIGHT + goer] == sight && scene.cells[SET + goer] == sight) {
            return false;
        }
        history.remember(scene);
        scene.cells[SIGHT + goer] = sight;
        scene.cells[SET + goer] = sight;
        scene.choose();
        return true;
    }

    public boolean turn(int goer, int road) {
        if (!isGoer(goer) || !isRoad(road) || scene.cells[FACE + goer] == road) {
            return false;
        }
        history.remember(scene);
        scene.cells[FACE + goer] = road;
        scene.choose();
        return true;
    }

    public boolean wish(int goer, int road, int want) {
        if (!isGoer(goer) || !isRoad(road) || want < 0 || want > MOST_WANT
                || scene.wantOf(goer, road) == want) {
            return false;
        }
        history.remember(scene);
        scene.cells[WANT + goer * MOST_ROADS + road] = want;
        scene.choose();
        return true;
    }

    public int days(int n) {
        if (n < 0 || n > MOST_DAYS) {
            return NONE;
        }
        if (n > 0) {
            history.remember(scene);
            time.pass(scene, n, text.seed);
        }
        return scene.cells[DAY];
    }

    public boolean undo() {
        return history.takeBack(scene);
    }

    // ---- what would be

    public int plan(int t, int i) {
        if (t < 0 || t > MOST_TIME || i < -2 || i >= text.goers) {
            return NONE;
        }
        planning.make(t);
        if (!planning.found) {
            return -3;
        }
        if (i == NONE) {
            return planning.bestMissed;
        }
        return i < 0 ? planning.bestStands : planning.best[i];
    }

    public int rests() {
        givings.weighAll();
        return givings.restCount;
    }

    public int bestRest(int i) {
        if (i < NONE || i >= text.goers) {
            return NO_GAIN;
        }
        givings.weighAll();
        if (givings.restCount == 0) {
            return NO_GAIN;
        }
        return i < 0 ? givings.restGain : givings.restPick[i];
    }

    public int bestGiving(int i) {
        if (i < NONE || i >= text.goers) {
            return NO_GAIN;
        }
        givings.weighAll();
        return i < 0 ? givings.givingGain : givings.givingPick[i];
    }

    public int settles() {
        return givings.roundsToRest();
    }

    public int oneEach(int i) {
        if (i < NONE || i >= text.goers) {
            return NONE;
        }
        sharing.make();
        return i < 0 ? sharing.total() : sharing.share[i];
    }

    public int closing() {
        return givings.betterClosed();
    }

    public int search(int n, int c) {
        if (n < 1 || n > MOST_LOOKS || c < 0 || c > MOST_COST) {
            return NO_SEARCH;
        }
        return searchWorth(n, c);
    }

    public int bar(int n, int c) {
        if (n < 1 || n > MOST_LOOKS || c < 0 || c > MOST_COST) {
            return NONE;
        }
        int goingOn = searchWorth(n - 1, c);
        int unit = 1;
        for (int k = 1; k < n; k++) {
            unit *= 10;
        }
        int worth = 0;
        while (worth < 10 && worth * unit < goingOn) {
            worth++;
        }
        return worth;
    }

    public int enough(int goer, int road) {
        if (!isGoer(goer) || !isRoad(road)) {
            return NONE;
        }
        int least = scene.leastToChoose(goer, road);
        return least < 0 || least > MOST_WANT ? -2 : least;
    }

    public int open(int goer) {
        if (!isGoer(goer)) {
            return NONE;
        }
        int sight = 1;
        while (sight < MOST_SIGHT
                && scene.missedBy(goer, scene.choiceWith(goer, sight, NONE)) > 0) {
            sight++;
        }
        return sight;
    }

    public int crowded(int what) {
        if (what != 0 && what != 1) {
            return NONE;
        }
        if (text.roads == 0) {
            return -2;
        }
        int most = 0;
        for (int r = 1; r < text.roads; r++) {
            if (scene.takers[r] > scene.takers[most]) {
                most = r;
            }
        }
        return what == 0 ? most : scene.takers[most];
    }

    public int same(int goer) {
        if (!isGoer(goer)) {
            return NONE;
        }
        int bits = 0;
        for (int g = 0; g < text.goers; g++) {
            if (g != goer && scene.choice[g] == scene.choice[goer]) {
                bits |= 1 << g;
            }
        }
        return bits;
    }

    public int then(int goer, int n, int what) {
        if (!isGoer(goer) || n < 0 || n > MOST_DAYS || what < 0 || what > 2) {
            return NONE;
        }
        Scene ahead = time.inDays(scene, n, text.seed);
        if (what == 0) {
            return ahead.cells[STOOD + goer];
        }
        return what == 1 ? ahead.cells[FACE + goer] : ahead.cells[SIGHT + goer];
    }

    public int gainedIn(int goer, int n) {
        if (!isGoer(goer) || n < 0 || n > MOST_DAYS) {
            return NO_GAIN;
        }
        return time.inDays(scene, n, text.seed).cells[GAINED + goer];
    }

    public int year(int goer, int road, int n, int s) {
        if (!isGoer(goer) || !isRoad(road) || n < 0 || n > MOST_DAYS || s < 1 || s > MOST_SEEDS) {
            return NONE;
        }
        int times = 0;
        for (int k = 0; k < s; k++) {
            if (time.inDays(scene, n, text.seed + k).choice[goer] == road) {
                times++;
            }
        }
        return times;
    }

    // ---- the goer unknown

    public int tell(int mark, int v, boolean so) {
        if (told.size >= MOST_TOLD || mark < 0 || mark >= MARKS || v < 0 || v > MOST_WANT) {
            return NONE;
        }
        return told.add(mark, v, so);
    }

    public int forget() {
        int before = told.size;
        told.size = 0;
        return before;
    }

    public int who(int k, int what) {
        if (k < 0 || k > told.size || what < 0 || what > 1) {
            return NONE;
        }
        int bits = told.leftBits(k);
        return what == 0 ? Integer.bitCount(bits) : bits;
    }

    public int look(int k, int v) {
        if (k < 0 || k > told.size || v < 0 || v > MOST_WANT) {
            return NONE;
        }
        int bits = told.leftBits(k);
        return bits == 0 ? -2 : told.bestMark(bits, v);
    }

    // ---- held and counted

    public boolean hold(int slot) {
        return history.keep(slot, scene);
    }

    public boolean restore(int slot) {
        return history.bringBack(slot, scene);
    }

    public int count(int what) {
        switch (what) {
            case 0:
                return text.roads;
            case 1:
                return text.goers;
            case 2:
                return scene.cells[DAY];
            case 3:
                return laws.standsOfAll(scene);
            case 4:
                return scene.missedByAll();
            case 5:
                return laws.gainOfAll(scene);
            case 6:
                return scene.chosenBits();
            case 7:
                return scene.seenByAnyBits();
            case 8:
                return tape.length;
            case 9:
                return history.size;
            case 10:
                return told.size;
            case 11:
                return history.heldCount();
            case 12:
                return scene.sumFrom(STOOD);
            case 13:
                return scene.sumFrom(GAINED);
            case 14:
                return scene.sumFrom(SIGHT);
            case 15:
                return scene.sumFrom(SET);
            default:
                return NO_GAIN;
        }
    }

    private boolean isRoad(int road) {
        return road >= 0 && road < text.roads;
    }

    private boolean isGoer(int goer) {
        return goer >= 0 && goer < text.goers;
    }

    /** With n things to come, times 10 to the power of n; with none to come 0, which no thing is worth less than. */
    private static int searchWorth(int n, int c) {
        int worth = 0;
        int unit = 1;
        for (int k = 0; k < n; k++) {
            int sum = 0;
            for (int thing = 0; thing < 10; thing++) {
                sum += Math.max(thing * unit, worth);
            }
            unit *= 10;
            worth = sum - c * unit;
        }
        return worth;
    }

    private static int heldTo(int value, int most) {
        return Math.max(0, Math.min(most, value));
    }

    /** The bytes that were fed, and the tokens that they make. */
    private static final class Tape {
        final byte[] bytes = new byte[MOST_BYTES];
        int length;
        /** One token more than there is room for is kept: it is where the fault stands. */
        final int[] kinds = new int[MOST_TOKENS + 1];
        private final int[] places = new int[MOST_TOKENS + 1];
        private final long[] values = new long[MOST_TOKENS + 1];

        void put(int fourBytes) {
            for (int shift = 24; shift >= 0 && length < MOST_BYTES; shift -= 8) {
                bytes[length] = (byte) (fourBytes >>> shift);
                length++;
            }
        }

        int kindAt(int i) {
            return i >= 0 && i <= MOST_TOKENS ? kinds[i] : T_END;
        }

        int placeAt(int i) {
            return i >= 0 && i <= MOST_TOKENS ? places[i] : length;
        }

        long valueAt(int i) {
            return i >= 0 && i <= MOST_TOKENS ? values[i] : 0;
        }

        /** Up to the text's end, to what is no token, or to the first token without room. */
        void split() {
            int from = 0;
            for (int i = 0; i <= MOST_TOKENS; i++) {
                from = pastBlanks(from);
                places[i] = from;
                from = addToken(i, from);
                if (kinds[i] >= T_END) {
                    return;
                }
            }
        }

        private int pastBlanks(int from) {
            int i = from;
            while (i < length && isBlank(bytes[i])) {
                i++;
            }
            return i;
        }

        private int addToken(int i, int from) {
            values[i] = 0;
            if (from >= length) {
                kinds[i] = T_END;
                return from;
            }
            if (isLetter(bytes[from])) {
                return addWord(i, from);
            }
            if (isDigit(bytes[from])) {
                return addInt(i, from);
            }
            int sign = SIGNS.indexOf((char) (bytes[from] & 255));
            kinds[i] = sign < 0 ? T_NO_TOKEN : T_SEMICOLON + sign;
            return from + 1;
        }

        private int addWord(int i, int from) {
            int to = from;
            long packed = 0;
            while (to < length && isLetter(bytes[to])) {
                packed = packed * 27 + (bytes[to] - 'a' + 1);
                to++;
            }
            values[i] = packed;
            kinds[i] = to - from > MOST_LETTERS ? T_NO_TOKEN : wordKind(from, to - from);
            return to;
        }

        private int addInt(int i, int from) {
            int to = from;
            long value = 0;
            while (to < length && isDigit(bytes[to])) {
                value = value * 10 + (bytes[to] - '0');
                to++;
            }
            values[i] = value;
            kinds[i] = to - from > MOST_DIGITS ? T_NO_TOKEN : T_INT;
            return to;
        }

        private int wordKind(int from, int size) {
            for (int w = 0; w < WORD_COUNT; w++) {
                int same = 0;
                while (same < size && WORDS.charAt(w * 8 + same) == bytes[from + same]) {
                    same++;
                }
                if (same == size && (size == 8 || WORDS.charAt(w * 8 + size) == ' ')) {
                    return w;
                }
            }
            return T_NAME;
        }

        private static boolean isBlank(byte b) {
            return b == 9 || b == 10 || b == 13 || b == 32;
        }

        private static boolean isLetter(byte b) {
            return b >= 'a' && b <= 'z';
        }

        private static boolean isDigit(byte b) {
            return b >= '0' && b <= '9';
        }
    }

    /** What a text without a fault tells. Each law is code for a machine with a stack. */
    private static final class Text {
        int roads;
        int goers;
        int seed;
        final int[] wide = new int[MOST_ROADS];
        final int[] face = new int[MOST_GOERS];
        final int[] sight = new int[MOST_GOERS];
        final int[] want = new int[MOST_WANTS];
        final int[] lawStart = new int[LAWS];
        final int[] ops = new int[CODE];
        final int[] args = new int[CODE];
        int codeSize;

        Text() {
            clear();
        }

        void clear() {
            roads = 0;
            goers = 0;
            seed = 0;
            for (int i = 0; i < MOST_WANTS; i++) {
                want[i] = 0;
            }
            codeSize = 0;
            plainLaw(STANDS, C_VAR, V_SEEN);
            plainLaw(CROWDS, C_VAR, V_HERE);
            plainLaw(KEEPS, C_INT, 0);
            plainLaw(TURNS, C_INT, 0);
        }

        private void plainLaw(int law, int op, int arg) {
            lawStart[law] = codeSize;
            emit(op, arg);
            emit(C_END, 0);
        }

        void emit(int op, int arg) {
            if (codeSize < CODE) {
                ops[codeSize] = op;
                args[codeSize] = arg;
                codeSize++;
            }
        }

        /** A test that fails goes on from where the code ends now. */
        void aimHere(int test) {
            if (test >= 0 && test < codeSize) {
                args[test] = codeSize;
            }
        }

        void become(Text other) {
            roads = other.roads;
            goers = other.goers;
            seed = other.seed;
            codeSize = other.codeSize;
            System.arraycopy(other.wide, 0, wide, 0, MOST_ROADS);
            System.arraycopy(other.face, 0, face, 0, MOST_GOERS);
            System.arraycopy(other.sight, 0, sight, 0, MOST_GOERS);
            System.arraycopy(other.want, 0, want, 0, MOST_WANTS);
            System.arraycopy(other.lawStart, 0, lawStart, 0, LAWS);
            System.arraycopy(other.ops, 0, ops, 0, codeSize);
            System.arraycopy(other.args, 0, args, 0, codeSize);
        }
    }

    /** Finds a tape's first fault; while it looks, it makes the draft of the new text. */
    private static final class Parser {
        final Text draft = new Text();
        int place = NONE;
        private final Tape tape;
        private final long[] roadNames = new long[MOST_ROADS];
        private final long[] goerNames = new long[MOST_GOERS];
        private int fault;
        private int faultToken;
        /** The token to be read next, and its kind. */
        private int next;
        private int kind;
        private int roadTells;
        private int goerTells;
        private int wantTells;

        Parser(Tape tape) {
            this.tape = tape;
        }

        int check() {
            draft.clear();
            tape.split();
            fault = 0;
            faultToken = 0;
            next = 0;
            kind = tape.kindAt(0);
            roadTells = 0;
            goerTells = 0;
            wantTells = 0;
            for (int n = 0; n <= MOST_TOKENS && fault == 0 && kind != T_END; n++) {
                readTell();
            }
            for (int i = 0; i < next && fault == 0; i++) {
                understand(i);
            }
            place = fault == 0 ? NONE : tape.placeAt(faultToken);
            return fault;
        }

        /** Faults are come by in the order of their places, so that the first one stays. */
        private void fail(int number, int token) {
            if (fault == 0) {
                fault = number;
                faultToken = token;
            }
        }

        private void take(int wanted) {
            if (fault != 0) {
                return;
            }
            if (kind == wanted && next < MOST_TOKENS) {
                next++;
                kind = tape.kinds[next];
            } else {
                fault = kind == wanted ? ROOM : SYNTAX;
                faultToken = next;
            }
        }

        private void readTell() {
            if (kind == T_ROAD) {
                roadTells++;
                readNamed(T_ROAD, 1, roadTells > MOST_ROADS);
            } else if (kind == T_GOER) {
                goerTells++;
                readNamed(T_GOER, 2, goerTells > MOST_GOERS);
            } else if (kind == T_WANTS) {
                wantTells++;
                readNamed(T_WANTS, 2, wantTells > MOST_WANTS);
            } else if (kind == T_SEED) {
                readNamed(T_SEED, 0, false);
            } else if (kind >= T_STANDS && kind <= T_TURNS) {
                readLaw(kind - T_STANDS);
            } else {
                fail(SYNTAX, next);
            }
        }

        private void readNamed(int word, int names, boolean full) {
            if (full) {
                fail(ROOM, next);
            }
            take(word);
            for (int n = 0; n < names; n++) {
                take(T_NAME);
            }
            take(T_INT);
            take(T_SEMICOLON);
        }

        private void readLaw(int law) {
            draft.lawStart[law] = draft.codeSize;
            take(T_STANDS + law);
            take(T_EQUALS);
            for (int ifs = 0; ifs < MOST_IFS && fault == 0 && kind == T_IF; ifs++) {
                take(T_IF);
                readSum(0);
                take(T_LESS);
                readSum(0);
                int test = draft.codeSize;
                draft.emit(C_TEST, 0);
                take(T_THEN);
                readSum(0);
                draft.emit(C_END, 0);
                take(T_ELSE);
                draft.aimHere(test);
            }
            if (fault == 0 && kind == T_IF) {
                fail(ROOM, next);
            }
            readSum(0);
            draft.emit(C_END, 0);
            take(T_SEMICOLON);
        }

        private void readSum(int depth) {
            readProduct(depth);
            for (int n = 0; n < MOST_TOKENS && fault == 0 && (kind == T_PLUS || kind == T_MINUS); n++) {
                int sign = kind;
                take(sign);
                readProduct(depth);
                draft.emit(sign == T_PLUS ? C_PLUS : C_MINUS, 0);
            }
        }

        private void readProduct(int depth) {
            readUnit(depth);
            for (int n = 0; n < MOST_TOKENS && fault == 0 && (kind == T_TIMES || kind == T_OVER); n++) {
                int sign = kind;
                take(sign);
                readUnit(depth);
                draft.emit(sign == T_TIMES ? C_TIMES : C_OVER, 0);
            }
        }

        private void readUnit(int depth) {
            if (fault != 0) {
                return;
            }
            if (kind == T_INT) {
                draft.emit(C_INT, (int) tape.valueAt(next));
                take(T_INT);
            } else if (kind >= T_SEEN && kind <= T_ROADS) {
                draft.emit(C_VAR, kind - T_SEEN);
                take(kind);
            } else if (kind != T_OPEN) {
                fail(SYNTAX, next);
            } else if (depth >= MOST_NESTED) {
                fail(ROOM, next);
            } else {
                take(T_OPEN);
                readSum(depth + 1);
                take(T_CLOSE);
            }
        }

        /** A text that is well formed has these four words at the head of a tell alone. */
        private void understand(int head) {
            switch (tape.kindAt(head)) {
                case T_ROAD:
                    understandRoad(head);
                    break;
                case T_GOER:
                    understandGoer(head);
                    break;
                case T_WANTS:
                    understandWants(head);
                    break;
                case T_SEED:
                    draft.seed = (int) tape.valueAt(head + 1);
                    break;
                default:
                    break;
            }
        }

        private void understandRoad(int head) {
            long name = tape.valueAt(head + 1);
            if (isTold(name)) {
                fail(TWICE, head + 1);
            }
            int wide = numberAt(head + 2, 1, MOST_WIDE);
            if (fault == 0 && draft.roads < MOST_ROADS) {
                roadNames[draft.roads] = name;
                draft.wide[draft.roads] = wide;
                draft.roads++;
            }
        }

        private void understandGoer(int head) {
            long name = tape.valueAt(head + 1);
            if (isTold(name)) {
                fail(TWICE, head + 1);
            }
            int face = roadAt(head + 2);
            int sight = numberAt(head + 3, 1, MOST_SIGHT);
            if (fault == 0 && draft.goers < MOST_GOERS) {
                goerNames[draft.goers] = name;
                draft.face[draft.goers] = face;
                draft.sight[draft.goers] = sight;
                draft.goers++;
            }
        }

        private void understandWants(int head) {
            int goer = goerNamed(tape.valueAt(head + 1));
            if (goer < 0) {
                fail(NAMELESS, head + 1);
            }
            int road = roadAt(head + 2);
            int want = numberAt(head + 3, 0, MOST_WANT);
            if (fault == 0) {
                draft.want[goer * MOST_ROADS + road] = want;
            }
        }

        private int roadAt(int token) {
            int road = roadNamed(tape.valueAt(token));
            if (road < 0) {
                fail(NAMELESS, token);
            }
            return road;
        }

        private int numberAt(int token, int least, int most) {
            long value = tape.valueAt(token);
            if (value < least || value > most) {
                fail(WRONG, token);
            }
            return (int) value;
        }

        private boolean isTold(long name) {
            return roadNamed(name) >= 0 || goerNamed(name) >= 0;
        }

        private int roadNamed(long name) {
            for (int r = 0; r < draft.roads; r++) {
                if (roadNames[r] == name) {
                    return r;
                }
            }
            return NONE;
        }

        private int goerNamed(long name) {
            for (int g = 0; g < draft.goers; g++) {
                if (goerNames[g] == name) {
                    return g;
                }
            }
            return NONE;
        }
    }

    /** How it is on a day, and who chooses what by it. */
    private static final class Scene {
        final int[] cells = new int[CELLS];
        final int[] choice = new int[MOST_GOERS];
        final int[] takers = new int[MOST_ROADS];
        /** Another number whenever something has changed, so that answers can be kept until then. */
        int version;
        private final Text text;

        Scene(Text text) {
            this.text = text;
        }

        void begin() {
            for (int g = 0; g < MOST_GOERS; g++) {
                cells[FACE + g] = text.face[g];
                cells[SIGHT + g] = text.sight[g];
                cells[SET + g] = text.sight[g];
                cells[STOOD + g] = 0;
                cells[GAINED + g] = 0;
            }
            cells[DAY] = 0;
            System.arraycopy(text.want, 0, cells, WANT, MOST_WANTS);
            choose();
        }

        void become(int[] row) {
            System.arraycopy(row, 0, cells, 0, CELLS);
            choose();
        }

        void copyTo(int[] row) {
            System.arraycopy(cells, 0, row, 0, CELLS);
        }

        /** Belongs behind every change of the cells. */
        void choose() {
            for (int r = 0; r < MOST_ROADS; r++) {
                takers[r] = 0;
            }
            for (int g = 0; g < text.goers; g++) {
                int road = choiceWith(g, cells[SIGHT + g], NONE);
                choice[g] = road;
                if (road >= 0) {
                    takers[road]++;
                }
            }
            version++;
        }

        int wantOf(int goer, int road) {
            return cells[WANT + goer * MOST_ROADS + road];
        }

        int seenCount(int goer) {
            return Math.min(cells[SIGHT + goer], text.roads);
        }

        /** The road that a goer would see j roads on from the one faced. */
        int roadAt(int goer, int j) {
            int road = cells[FACE + goer] + j;
            return road >= text.roads ? road - text.roads : road;
        }

        /** NONE if no road but the closed one is seen. */
        int choiceWith(int goer, int sight, int closed) {
            int best = NONE;
            for (int j = 0; j < sight && j < text.roads; j++) {
                int road = roadAt(goer, j);
                if (road != closed && (best < 0 || wantOf(goer, road) > wantOf(goer, best))) {
                    best = road;
                }
            }
            return best;
        }

        int nextWant(int goer, int sight, int chosen) {
            int most = 0;
            for (int j = 0; j < sight && j < text.roads; j++) {
                int road = roadAt(goer, j);
                if (road != chosen) {
                    most = Math.max(most, wantOf(goer, road));
                }
            }
            return most;
        }

        int missedBy(int goer, int road) {
            int most = 0;
            for (int r = 0; r < text.roads; r++) {
                most = Math.max(most, wantOf(goer, r));
            }
            return road < 0 ? most : most - wantOf(goer, road);
        }

        int missedByAll() {
            int sum = 0;
            for (int g = 0; g < text.goers; g++) {
                sum += missedBy(g, choice[g]);
            }
            return sum;
        }

        /** NONE if the road is not seen; may be more than any want is allowed to be. */
        int leastToChoose(int goer, int road) {
            int least = 0;
            boolean passed = false;
            for (int j = 0; j < seenCount(goer); j++) {
                int other = roadAt(goer, j);
                if (other == road) {
                    passed = true;
                } else {
                    least = Math.max(least, wantOf(goer, other) + (passed ? 0 : 1));
                }
            }
            return passed ? least : NONE;
        }

        int seenBits(int goer) {
            int bits = 0;
            for (int j = 0; j < seenCount(goer); j++) {
                bits |= 1 << roadAt(goer, j);
            }
            return bits;
        }

        int seenByAnyBits() {
            int bits = 0;
            for (int g = 0; g < text.goers; g++) {
                bits |= seenBits(g);
            }
            return bits;
        }

        int seersOf(int road) {
            int bits = 0;
            for (int g = 0; g < text.goers; g++) {
                if ((seenBits(g) >> road & 1) == 1) {
                    bits |= 1 << g;
                }
            }
            return bits;
        }

        int chosenBits() {
            int bits = 0;
            for (int r = 0; r < text.roads; r++) {
                if (takers[r] > 0) {
                    bits |= 1 << r;
                }
            }
            return bits;
        }

        int wantsFor(int road) {
            int sum = 0;
            for (int g = 0; g < text.goers; g++) {
                sum += wantOf(g, road);
            }
            return sum;
        }

        /** Of all goers, a sort of cell told by where its first one is. */
        int sumFrom(int first) {
            int sum = 0;
            for (int g = 0; g < text.goers; g++) {
                sum += cells[first + g];
            }
            return sum;
        }
    }

    /** Works out the text's laws for a goer of a scene. */
    private static final class Laws {
        private final Text text;
        private final int[] vars = new int[VARS];
        private final int[] stack = new int[STACK];

        Laws(Text text) {
            this.text = text;
        }

        /** The laws behind this are looked at as they are for this goer now. */
        void meet(Scene scene, int goer) {
            int road = scene.choice[goer];
            suppose(scene, goer, road, road < 0 ? 0 : scene.takers[road]);
            vars[V_SEEN] = scene.seenCount(goer);
            vars[V_NEXT] = scene.nextWant(goer, scene.cells[SIGHT + goer], road);
        }

        int heldStands() {
            return heldTo(value(STANDS), MOST_STANDS);
        }

        boolean isKeeping() {
            return value(KEEPS) > 0;
        }

        int heldTurns() {
            return heldTo(value(TURNS), MOST_TURNS);
        }

        int standsNow(Scene scene, int goer) {
            meet(scene, goer);
            return heldStands();
        }

        /** STANDS, were the sight another and so many on the road that is chosen by it. */
        int standsWith(Scene scene, int goer, int sight, int road, int here) {
            suppose(scene, goer, road, here);
            vars[V_SEEN] = Math.min(sight, text.roads);
            vars[V_NEXT] = scene.nextWant(goer, sight, road);
            return heldStands();
        }

        int crowdsOf(Scene scene, int goer, int road, int k) {
            suppose(scene, goer, road, k);
            vars[V_SEEN] = scene.seenCount(goer);
            vars[V_NEXT] = 0;
            return heldTo(value(CROWDS), MOST_CROWDS);
        }

        int gainOf(Scene scene, int goer, int road, int k) {
            return scene.wantOf(goer, road) - crowdsOf(scene, goer, road, k);
        }

        int gainNow(Scene scene, int goer) {
            int road = scene.choice[goer];
            if (road < 0) {
                return 0;
            }
            return scene.wantOf(goer, road) - crowdsOf(scene, goer, road, scene.takers[road]);
        }

        int standsOfAll(Scene scene) {
            int sum = 0;
            for (int g = 0; g < text.goers; g++) {
                sum += standsNow(scene, g);
            }
            return sum;
        }

        int gainOfAll(Scene scene) {
            int sum = 0;
            for (int g = 0; g < text.goers; g++) {
                sum += gainNow(scene, g);
            }
            return sum;
        }

        private void suppose(Scene scene, int goer, int road, int here) {
            vars[V_WANT] = road < 0 ? 0 : scene.wantOf(goer, road);
            vars[V_WIDE] = road < 0 ? 0 : text.wide[road];
            vars[V_HERE] = here;
            vars[V_DAY] = scene.cells[DAY];
            vars[V_WHICH] = goer;
            vars[V_STOOD] = scene.cells[STOOD + goer];
            vars[V_ROADS] = text.roads;
        }

        /** Tests aim forward alone, so that no cell of the code is come by twice. */
        private int value(int law) {
            int top = 0;
            int at = text.lawStart[law];
            for (int n = 0; n < CODE && at >= 0 && at < text.codeSize && top < STACK; n++) {
                int op = text.ops[at];
                int arg = text.args[at];
                at++;
                if (op == C_END) {
                    return top > 0 ? stack[top - 1] : 0;
                }
                if (op == C_INT) {
                    stack[top] = arg;
                    top++;
                } else if (op == C_VAR) {
                    stack[top] = arg >= 0 && arg < VARS ? vars[arg] : 0;
                    top++;
                } else {
                    if (top < 2) {
                        return 0;
                    }
                    top -= 2;
                    int left = stack[top];
                    int right = stack[top + 1];
                    if (op == C_TEST) {
                        at = left < right ? at : arg;
                    } else if (op == C_OVER && right == 0) {
                        return 0;
                    } else {
                        stack[top] = combined(op, left, right);
                        top++;
                    }
                }
            }
            return 0;
        }

        private static int combined(int op, int left, int right) {
            switch (op) {
                case C_PLUS:
                    return left + right;
                case C_MINUS:
                    return left - right;
                case C_TIMES:
                    return left * right;
                default:
                    return right == 0 ? 0 : left / right;
            }
        }
    }

    /** Lets days go by, in the scene itself or in one that stands for what would be. */
    private static final class Days {
        private final Text text;
        private final Laws laws;
        private final Scene ahead;

        Days(Text text, Laws laws) {
            this.text = text;
            this.laws = laws;
            ahead = new Scene(text);
        }

        Scene inDays(Scene now, int n, int seed) {
            ahead.become(now.cells);
            pass(ahead, n, seed);
            return ahead;
        }

        void pass(Scene scene, int n, int seed) {
            for (int k = 0; k < n; k++) {
                int day = scene.cells[DAY];
                for (int g = 0; g < text.goers; g++) {
                    passOne(scene, g, lot(100, seed, 8 * day + g));
                }
                scene.cells[DAY] = day + 1;
                scene.choose();
            }
        }

        /** The choices stay those of the morning until all have gone through the day. */
        private void passOne(Scene scene, int goer, int lot) {
            laws.meet(scene, goer);
            int stands = laws.heldStands();
            boolean keeps = laws.isKeeping();
            boolean turns = lot < laws.heldTurns();
            int gain = laws.gainNow(scene, goer);
            int[] cells = scene.cells;
            cells[STOOD + goer] += stands;
            cells[GAINED + goer] += gain;
            int sight = cells[SIGHT + goer];
            cells[SIGHT + goer] = keeps ? Math.max(1, sight - 1) : Math.min(cells[SET + goer], sight + 1);
            if (turns) {
                cells[FACE + goer] = scene.roadAt(goer, 1);
            }
        }

        private static int lot(int n, int seed, int which) {
            int h = mixed(mixed(seed, 207), which) >>> 1;
            return n > 0 ? h % n : 0;
        }

        private static int mixed(int h, int it) {
            int next = (h ^ it) * 1103515245 + 12345;
            return next ^ next >>> 15;
        }
    }

    /** The sights by which least is missed in so long a standing. */
    private static final class Plan {
        boolean found;
        int bestMissed;
        int bestStands;
        final int[] best = new int[MOST_GOERS];
        private final Text text;
        private final Scene scene;
        private final Laws laws;
        /** By goer and sight; STANDS also by how many take the road that is chosen then. */
        private final int[] choices = new int[MOST_GOERS * MOST_SIGHT];
        private final int[] missed = new int[MOST_GOERS * MOST_SIGHT];
        private final int[] stands = new int[MOST_GOERS * MOST_SIGHT * MOST_GOERS];
        private final int[] pick = new int[MOST_GOERS];
        private final int[] takers = new int[MOST_ROADS];
        private int limit = NONE;
        private int madeFor = NONE;

        Plan(Text text, Scene scene, Laws laws) {
            this.text = text;
            this.scene = scene;
            this.laws = laws;
        }

        void make(int t) {
            if (madeFor == scene.version && limit == t) {
                return;
            }
            if (madeFor != scene.version) {
                fillTables();
            }
            madeFor = scene.version;
            limit = t;
            found = false;
            bestMissed = 0;
            bestStands = 0;
            for (int r = 0; r < MOST_ROADS; r++) {
                takers[r] = 0;
            }
            tryFrom(0, 0);
        }

        private void fillTables() {
            for (int g = 0; g < text.goers; g++) {
                for (int sight = 1; sight <= text.roads; sight++) {
                    int cell = g * MOST_SIGHT + sight - 1;
                    int road = scene.choiceWith(g, sight, NONE);
                    choices[cell] = Math.max(0, road);
                    missed[cell] = scene.missedBy(g, road);
                    for (int here = 1; here <= text.goers; here++) {
                        stands[cell * MOST_GOERS + here - 1] = laws.standsWith(scene, g, sight, road, here);
                    }
                }
            }
        }

        /** Low sights come first, so that of alike plans the first one found is the one to keep. */
        private void tryFrom(int goer, int missedSoFar) {
            if (found && missedSoFar > bestMissed) {
                return;
            }
            if (goer >= text.goers) {
                weigh(missedSoFar);
                return;
            }
            for (int sight = 1; sight <= text.roads; sight++) {
                int cell = goer * MOST_SIGHT + sight - 1;
                pick[goer] = sight;
                takers[choices[cell]]++;
                tryFrom(goer + 1, missedSoFar + missed[cell]);
                takers[choices[cell]]--;
            }
        }

        private void weigh(int missedByAll) {
            int sum = 0;
            for (int g = 0; g < text.goers; g++) {
                int cell = g * MOST_SIGHT + pick[g] - 1;
                int here = takers[choices[cell]];
                sum += here > 0 ? stands[cell * MOST_GOERS + here - 1] : 0;
            }
            if (sum > limit || found && missedByAll == bestMissed && sum >= bestStands) {
                return;
            }
            found = true;
            bestMissed = missedByAll;
            bestStands = sum;
            System.arraycopy(pick, 0, best, 0, MOST_GOERS);
        }
    }

    /** Roads for all goers, as they see them: rests, the best ones, and what comes of closing a road. */
    private static final class Givings {
        int restCount;
        int restGain;
        int givingGain;
        final int[] restPick = new int[MOST_GOERS];
        final int[] givingPick = new int[MOST_GOERS];
        private final Text text;
        private final Scene scene;
        private final Laws laws;
        private final int[] seen = new int[MOST_GOERS];
        /** By goer, road and how many take it. */
        private final int[] gains = new int[MOST_WANTS * MOST_GOERS];
        private final int[] pick = new int[MOST_GOERS];
        private final int[] takers = new int[MOST_ROADS];
        private boolean anyGiving;
        private int gainsFor = NONE;
        private int weighedFor = NONE;

        Givings(Text text, Scene scene, Laws laws) {
            this.text = text;
            this.scene = scene;
            this.laws = laws;
        }

        void weighAll() {
            if (weighedFor == scene.version) {
                return;
            }
            weighedFor = scene.version;
            fillGains();
            restCount = 0;
            restGain = 0;
            givingGain = 0;
            anyGiving = false;
            clearTakers();
            giveFrom(0);
        }

        int roundsToRest() {
            fillGains();
            clearTakers();
            for (int g = 0; g < text.goers; g++) {
                pick[g] = Math.max(0, scene.choice[g]);
                takers[pick[g]]++;
            }
            for (int rounds = 0; rounds <= MOST_ROUNDS; rounds++) {
                boolean changed = false;
                for (int g = 0; g < text.goers; g++) {
                    changed |= moveToBest(g);
                }
                if (!changed) {
                    return rounds;
                }
            }
            return -2;
        }

        int betterClosed() {
            fillGains();
            int now = gainWithout(NONE);
            int bits = 0;
            for (int r = 0; r < text.roads; r++) {
                if (gainWithout(r) > now) {
                    bits |= 1 << r;
                }
            }
            return bits;
        }

        private void fillGains() {
            if (gainsFor == scene.version) {
                return;
            }
            gainsFor = scene.version;
            for (int g = 0; g < text.goers; g++) {
                seen[g] = scene.seenBits(g);
                for (int r = 0; r < text.roads; r++) {
                    for (int k = 1; k <= text.goers; k++) {
                        gains[(g * MOST_ROADS + r) * MOST_GOERS + k - 1] = laws.gainOf(scene, g, r, k);
                    }
                }
            }
        }

        private int gain(int goer, int road, int k) {
            int cell = (goer * MOST_ROADS + road) * MOST_GOERS + k - 1;
            return cell >= 0 && cell < gains.length ? gains[cell] : 0;
        }

        private void clearTakers() {
            for (int r = 0; r < MOST_ROADS; r++) {
                takers[r] = 0;
            }
        }

        /** Low roads come first, so that of alike ways the first one found is the one to keep. */
        private void giveFrom(int goer) {
            if (goer >= text.goers) {
                weigh();
                return;
            }
            for (int r = 0; r < text.roads; r++) {
                if ((seen[goer] >> r & 1) == 1) {
                    pick[goer] = r;
                    takers[r]++;
                    giveFrom(goer + 1);
                    takers[r]--;
                }
            }
        }

        private void weigh() {
            int sum = 0;
            for (int g = 0; g < text.goers; g++) {
                sum += gain(g, pick[g], takers[pick[g]]);
            }
            if (!anyGiving || sum > givingGain) {
                anyGiving = true;
                givingGain = sum;
                System.arraycopy(pick, 0, givingPick, 0, MOST_GOERS);
            }
            if (!isRest()) {
                return;
            }
            if (restCount == 0 || sum > restGain) {
                restGain = sum;
                System.arraycopy(pick, 0, restPick, 0, MOST_GOERS);
            }
            restCount++;
        }

        private boolean isRest() {
            for (int g = 0; g < text.goers; g++) {
                if (wouldChange(g)) {
                    return false;
                }
            }
            return true;
        }

        private boolean wouldChange(int goer) {
            int own = gain(goer, pick[goer], takers[pick[goer]]);
            for (int r = 0; r < text.roads; r++) {
                if ((seen[goer] >> r & 1) == 1 && r != pick[goer] && gain(goer, r, takers[r] + 1) > own) {
                    return true;
                }
            }
            return false;
        }

        /** The road that the goer has, unless another one that is seen gains more. */
        private int bestMove(int goer) {
            int best = pick[goer];
            int most = gain(goer, best, takers[best]);
            for (int j = 0; j < scene.seenCount(goer); j++) {
                int road = scene.roadAt(goer, j);
                if (road != pick[goer] && gain(goer, road, takers[road] + 1) > most) {
                    best = road;
                    most = gain(goer, road, takers[road] + 1);
                }
            }
            return best;
        }

        private boolean moveToBest(int goer) {
            int road = bestMove(goer);
            if (road == pick[goer]) {
                return false;
            }
            takers[pick[goer]]--;
            takers[road]++;
            pick[goer] = road;
            return true;
        }

        private int gainWithout(int closed) {
            clearTakers();
            for (int g = 0; g < text.goers; g++) {
                pick[g] = scene.choiceWith(g, scene.cells[SIGHT + g], closed);
                if (pick[g] >= 0) {
                    takers[pick[g]]++;
                }
            }
            int sum = 0;
            for (int g = 0; g < text.goers; g++) {
                sum += pick[g] >= 0 ? gain(g, pick[g], takers[pick[g]]) : 0;
            }
            return sum;
        }
    }

    /** One road each, seen or not. */
    private static final class Sharing {
        final int[] share = new int[MOST_GOERS];
        private final Text text;
        private final Scene scene;
        /** By a goer and the roads that are gone: the most that this goer and those behind can have. */
        private final int[][] most = new int[MOST_GOERS + 1][1 << MOST_ROADS];

        Sharing(Text text, Scene scene) {
            this.text = text;
            this.scene = scene;
        }

        int total() {
            return most[0][0];
        }

        void make() {
            int masks = 1 << text.roads;
            for (int gone = 0; gone < masks; gone++) {
                most[text.goers][gone] = 0;
            }
            for (int g = text.goers - 1; g >= 0; g--) {
                for (int gone = 0; gone < masks; gone++) {
                    most[g][gone] = mostFor(g, gone);
                }
            }
            int gone = 0;
            for (int g = 0; g < text.goers; g++) {
                share[g] = shareOf(g, gone);
                gone |= share[g] >= 0 ? 1 << share[g] : 0;
            }
        }

        private int mostFor(int goer, int gone) {
            int best = most[goer + 1][gone];
            for (int r = 0; r < text.roads; r++) {
                if ((gone >> r & 1) == 0) {
                    best = Math.max(best, withRoad(goer, r, gone));
                }
            }
            return best;
        }

        private int shareOf(int goer, int gone) {
            if (most[goer + 1][gone] == most[goer][gone]) {
                return -2;
            }
            for (int r = 0; r < text.roads; r++) {
                if ((gone >> r & 1) == 0 && withRoad(goer, r, gone) == most[goer][gone]) {
                    return r;
                }
            }
            return -2;
        }

        private int withRoad(int goer, int road, int gone) {
            return scene.wantOf(goer, road) + most[goer + 1][gone | 1 << road];
        }
    }

    /** What is told of a goer unknown. */
    private static final class Told {
        int size;
        private final Text text;
        private final Scene scene;
        private final Laws laws;
        private final int[] marks = new int[MOST_TOLD];
        private final int[] bounds = new int[MOST_TOLD];
        private final boolean[] reached = new boolean[MOST_TOLD];

        Told(Text text, Scene scene, Laws laws) {
            this.text = text;
            this.scene = scene;
            this.laws = laws;
        }

        int add(int mark, int v, boolean so) {
            if (size >= MOST_TOLD) {
                return NONE;
            }
            marks[size] = mark;
            bounds[size] = v;
            reached[size] = so;
            size++;
            return size - 1;
        }

        /** The goers of whom all of the first k is so. */
        int leftBits(int k) {
            int bits = 0;
            for (int g = 0; g < text.goers; g++) {
                boolean fits = true;
                for (int i = 0; i < k && i < MOST_TOLD && fits; i++) {
                    fits = markOf(marks[i], g) >= bounds[i] == reached[i];
                }
                if (fits) {
                    bits |= 1 << g;
                }
            }
            return bits;
        }

        int bestMark(int bits, int v) {
            int best = 0;
            int fewest = MOST_GOERS + 1;
            for (int mark = 0; mark < MARKS; mark++) {
                int left = leftAtWorst(mark, bits, v);
                if (left < fewest) {
                    fewest = left;
                    best = mark;
                }
            }
            return best;
        }

        private int leftAtWorst(int mark, int bits, int v) {
            int so = 0;
            int not = 0;
            for (int g = 0; g < text.goers; g++) {
                if ((bits >> g & 1) == 1) {
                    if (markOf(mark, g) >= v) {
                        so++;
                    } else {
                        not++;
                    }
                }
            }
            return Math.max(so, not);
        }

        private int markOf(int mark, int goer) {
            switch (mark) {
                case 0:
                    return scene.choice[goer];
                case 1:
                    return laws.standsNow(scene, goer);
                case 2:
                    return scene.missedBy(goer, scene.choice[goer]);
                case 3:
                    return scene.seenCount(goer);
                default:
                    return scene.cells[STOOD + goer];
            }
        }
    }

    /** Rows of cells to go back to: the last things done, as a ring, and the slots. */
    private static final class History {
        int size;
        private final int[][] rows = new int[MOST_UNDONE][CELLS];
        private int top;
        private final int[][] slots = new int[SLOTS][CELLS];
        private final boolean[] held = new boolean[SLOTS];

        void clear() {
            size = 0;
            for (int slot = 0; slot < SLOTS; slot++) {
                held[slot] = false;
            }
        }

        void remember(Scene scene) {
            scene.copyTo(rows[top]);
            top = top + 1 < MOST_UNDONE ? top + 1 : 0;
            size = Math.min(size + 1, MOST_UNDONE);
        }

        boolean takeBack(Scene scene) {
            if (size == 0) {
                return false;
            }
            top = top > 0 ? top - 1 : MOST_UNDONE - 1;
            size--;
            scene.become(rows[top]);
            return true;
        }

        boolean keep(int slot, Scene scene) {
            if (slot < 0 || slot >= SLOTS) {
                return false;
            }
            scene.copyTo(slots[slot]);
            held[slot] = true;
            return true;
        }

        boolean bringBack(int slot, Scene scene) {
            if (slot < 0 || slot >= SLOTS || !held[slot]) {
                return false;
            }
            scene.become(slots[slot]);
            size = 0;
            return true;
        }

        int heldCount() {
            int count = 0;
            for (int slot = 0; slot < SLOTS; slot++) {
                count += held[slot] ? 1 : 0;
            }
            return count;
        }
    }
}
