/** Promises 16 to 31: what would be, worked out by hand. */
public final class WouldBeTest {
    private static final Check check = new Check();
    private static final String PAIR = "road a 1;road b 1;goer p a 2;goer q a 2;"
            + "wants p a 9;wants p b 8;wants q a 9;wants q b 8;";
    /** The one wants to be where the other is, who wants to be alone. */
    private static final String CHASE = "road a 1;road b 1;goer p a 2;goer q a 2;wants p a 50;wants p b 50;"
            + "wants q a 50;wants q b 50;crowds=if which<1 then 20-here*10 else here*10;";

    /** WANTS, goer by goer, of two crossings that are 20 and 21 rounds from where a round changes nothing. */
    static final int[] TWENTY = {
        30, 76, 77, 53, 58, 77,
        76, 95, 89, 62, 60, 90,
        66, 64, 89, 51, 40, 86,
        58, 43, 71, 63, 88, 44,
        90, 69, 46, 2, 8, 56};
    static final int[] MORE = {
        30, 76, 77, 53, 58, 77,
        76, 95, 89, 62, 49, 90,
        66, 42, 89, 51, 25, 86,
        58, 43, 71, 74, 88, 42,
        90, 39, 27, 2, 8, 62};

    public static void main(String[] args) {
        plans();
        rests();
        settling();
        oneRoadEach();
        closingRoads();
        searching();
        enoughAndOpen();
        crowdedAndSame();
        inDays();
        years();
        nothingHappens();
        check.end();
    }

    private static void plan(BlinkerCross x, int t, int... due) {
        for (int i = -2; i < due.length - 2; i++) {
            check.due("plan(" + t + ", " + i + ")", x.plan(t, i), due[i + 2]);
        }
    }

    private static void plans() {
        check.about("promise 16");
        BlinkerCross x = Check.of(StateTest.TEXT);
        // STANDS, MISSED, the SIGHTS
        plan(x, 999, 7, 0, 3, 3, 1);
        plan(x, 7, 7, 0, 3, 3, 1);
        plan(x, 6, 5, 2, 3, 1, 1);
        plan(x, 5, 5, 2, 3, 1, 1);
        plan(x, 4, 4, 12, 2, 1, 1);
        plan(x, 3, 3, 22, 1, 1, 1);
        plan(x, 2, -3, -3, -3, -3, -3);
        plan(x, 0, -3, -3, -3, -3, -3);
        plan(x, -1, -1, -1, -1);
        plan(x, 1000, -1, -1, -1);
        check.due("plan(9, -3)", x.plan(9, -3), -1);
        check.due("plan(9, 3)", x.plan(9, 3), -1);
        check.due("plan(0, 3)", x.plan(0, 3), -1);
        BlinkerCross y = Check.of(StateTest.TEXT + "stands=0;");
        plan(y, 0, 0, 0, 3, 3, 1);
        y.wish(0, 2, 20);
        plan(y, 0, 0, 0, 2, 3, 1);
        // more roads than one: both on a stand 20 long each, else 10
        BlinkerCross z = Check.of("road a 1;road b 1;goer p b 1;goer q a 1;wants p a 9;wants p b 8;wants q a 9;stands=here*10;");
        plan(z, 40, 40, 0, 2, 1);
        plan(z, 39, 20, 1, 1, 1);
        plan(z, 19, -3, -3, -3);
        // the sights are no more than there are roads
        BlinkerCross w = Check.of("road a 1;road b 1;goer p a 6;stands=10-seen*2;");
        plan(w, 99, 6, 0, 2);
    }

    private static void rests() {
        check.about("promises 17, 18 and 19");
        BlinkerCross x = Check.of(StateTest.TEXT);
        check.due("rests()", x.rests(), 2);
        int[] best = {60, 1, 0, 1, -100000};
        for (int i = -1; i < 4; i++) {
            check.due("bestRest(" + i + ")", x.bestRest(i), best[i + 1]);
            check.due("bestGiving(" + i + ")", x.bestGiving(i), best[i + 1]);
        }
        check.due("bestRest(-2)", x.bestRest(-2), -100000);
        check.due("bestGiving(-2)", x.bestGiving(-2), -100000);
        BlinkerCross chase = Check.of(CHASE);
        check.due("rests()", chase.rests(), 0);
        check.due("bestRest(-1)", chase.bestRest(-1), -100000);
        check.due("bestRest(0)", chase.bestRest(0), -100000);
        check.due("bestGiving(-1)", chase.bestGiving(-1), 80);
        check.due("bestGiving(0)", chase.bestGiving(0), 0);
        check.due("bestGiving(1)", chase.bestGiving(1), 0);
        BlinkerCross pair = Check.of(PAIR + "crowds=here*2;");
        check.due("rests()", pair.rests(), 2);
        check.due("bestRest(-1)", pair.bestRest(-1), 13);
        check.due("bestRest(0)", pair.bestRest(0), 0);
        check.due("bestRest(1)", pair.bestRest(1), 1);
        // both on a is the only rest, one on each is better
        BlinkerCross crowd = Check.of(PAIR + "crowds=if wide*2<want-6 then here*2-1 else 3;");
        check.due("rests()", crowd.rests(), 1);
        check.due("bestRest(-1)", crowd.bestRest(-1), 12);
        check.due("bestRest(1)", crowd.bestRest(1), 0);
        check.due("bestGiving(-1)", crowd.bestGiving(-1), 13);
        check.due("bestGiving(0)", crowd.bestGiving(0), 0);
        check.due("bestGiving(1)", crowd.bestGiving(1), 1);
        BlinkerCross one = Check.of("road a 1;goer p a 1;crowds=5;");
        check.due("below 0", one.bestRest(-1), -5);
        check.due("below 0", one.bestGiving(-1), -5);
        BlinkerCross none = new BlinkerCross();
        check.due("no GOERS", none.rests(), 1);
        check.due("no GOERS", none.bestRest(-1), 0);
        check.due("no GOERS", none.bestGiving(-1), 0);
        check.due("no GOERS", none.bestGiving(0), -100000);
        BlinkerCross wide = Check.of("road a 1;road b 1;road c 1;road d 1;road e 1;road f 1;"
                + "goer p a 6;goer q a 6;goer r a 6;goer s a 6;goer t a 6;crowds=0;");
        check.due("all givings rest", wide.rests(), 7776);
        wide.flap(0, 1);
        check.due("fewer see fewer", wide.rests(), 1296);
        wide.undo();
        check.due("and more again", wide.rests(), 7776);
    }

    private static void settling() {
        check.about("promise 20");
        check.due("at rest", Check.of(StateTest.TEXT).settles(), 0);
        check.due("one round", Check.of(PAIR + "crowds=here*2;").settles(), 1);
        check.due("never", Check.of(CHASE).settles(), -2);
        check.due("no GOERS", new BlinkerCross().settles(), 0);
        // staying, if that is as good: 9 - 2 on either road
        check.due("as good", Check.of("road a 1;road b 1;goer p a 2;wants p a 9;wants p b 9;crowds=2;").settles(), 0);
        // of others the one seen first: q turns to c, as b is seen last, and p has nothing to change
        BlinkerCross x = Check.of("road a 1;road b 1;road c 1;goer p c 3;wants p a 9;wants p b 5;wants p c 5;"
                + "crowds=if want<9 then 0 else 9;");
        check.due("settles()", x.settles(), 1);
        // of most GAIN: straight to b, not by way of c
        BlinkerCross y = Check.of("road a 1;road b 1;road c 1;goer p a 3;wants p a 9;wants p b 5;wants p c 3;"
                + "crowds=if want<9 then 0 else 9;");
        check.due("settles()", y.settles(), 1);
        check.due("behind 20 rounds", longWay(TWENTY).settles(), 20);
        check.due("behind 21 rounds", longWay(MORE).settles(), -2);
    }

    /** A crossing, come by through a search, at which the goers change roads again and again. */
    static BlinkerCross longWay(int[] wants) {
        StringBuilder text = new StringBuilder();
        for (int r = 0; r < 6; r++) {
            text.append("road r").append((char) ('a' + r)).append(' ').append(r + 1).append(';');
        }
        for (int g = 0; g < 5; g++) {
            text.append("goer g").append((char) ('a' + g)).append(" ra 6;");
        }
        String sum = "(want*54+here*61+which*11+want*here)";
        BlinkerCross x = Check.of(text + "crowds=" + sum + "-" + sum + "/87*87;");
        for (int i = 0; i < wants.length; i++) {
            x.wish(i / 6, i % 6, wants[i]);
        }
        return x;
    }

    private static void oneRoadEach() {
        check.about("promise 21");
        BlinkerCross x = Check.of(StateTest.TEXT);
        int[] due = {75, 2, 0, 1, -1};
        for (int i = -1; i < 4; i++) {
            check.due("oneEach(" + i + ")", x.oneEach(i), due[i + 1]);
        }
        check.due("oneEach(-2)", x.oneEach(-2), -1);
        BlinkerCross y = Check.of("road a 1;goer p a 1;goer q a 1;wants p a 5;wants q a 5;");
        check.due("oneEach(-1)", y.oneEach(-1), 5);
        check.due("none ahead of all", y.oneEach(0), -2);
        check.due("oneEach(1)", y.oneEach(1), 0);
        y.wish(0, 0, 6);
        check.due("oneEach(0)", y.oneEach(0), 0);
        check.due("oneEach(1)", y.oneEach(1), -2);
        BlinkerCross z = Check.of("road a 1;road b 1;goer p a 1;goer q a 1;wants p a 5;wants p b 5;wants q a 5;wants q b 5;");
        check.due("oneEach(-1)", z.oneEach(-1), 10);
        check.due("the lowest for the first", z.oneEach(0), 0);
        check.due("oneEach(1)", z.oneEach(1), 1);
        z.wish(0, 0, 0);
        z.wish(0, 1, 0);
        check.due("no WANT, none", z.oneEach(0), -2);
        check.due("oneEach(-1)", z.oneEach(-1), 5);
    }

    private static void closingRoads() {
        check.about("promise 22");
        check.due("closing()", Check.of(StateTest.TEXT).closing(), 0);
        check.due("no ROADS", new BlinkerCross().closing(), 0);
        String text = "road a 1;road b 1;goer p a 2;goer q a 1;wants p a 9;wants p b 8;wants q a 9;";
        // now 1 and 1; without a 4 and none
        check.due("here*4", Check.of(text + "crowds=here*4;").closing(), 1);
        // now 3 and 3; without a 5 and none
        check.due("here*3", Check.of(text + "crowds=here*3;").closing(), 0);
        // now 9 - 9 each; without a p gains 8 - 9, q nothing; without b the same as now
        check.due("9", Check.of(text + "crowds=9;").closing(), 0);
        // seen stays 2 for p: without a 8 - 2, without b as now, 9 - 2 and 9 - 9
        check.due("seen", Check.of(text + "crowds=if seen<2 then 9 else seen;").closing(), 0);
        check.due("seen", Check.of(text + "crowds=if seen<2 then 11 else seen;").closing(), 1);
        // the last road can be closed, too, where it takes more than it gives
        check.due("one road", Check.of("road a 1;goer p a 1;crowds=1;").closing(), 1);
        check.due("as much is not more", Check.of("road a 1;goer p a 1;crowds=0;").closing(), 0);
    }

    private static void searching() {
        check.about("promises 23 and 24");
        BlinkerCross x = new BlinkerCross();
        int[] free = {45, 575, 6450, 69150, 724050, 7492400};
        int[] bars = {0, 5, 6, 7, 7, 8};
        int unit = 1;
        for (int n = 1; n <= 6; n++) {
            unit *= 10;
            check.due("search(" + n + ", 0)", x.search(n, 0), free[n - 1]);
            check.due("bar(" + n + ", 0)", x.bar(n, 0), bars[n - 1]);
            check.due("search(" + n + ", 9)", x.search(n, 9), -9 * (unit / 2));
            check.due("bar(" + n + ", 9)", x.bar(n, 9), 0);
        }
        check.due("search(2, 1)", x.search(2, 1), 430);
        check.due("bar(2, 1)", x.bar(2, 1), 4);
        check.due("bar(3, 1)", x.bar(3, 1), 5);
        int[][] no = {{0, 0}, {7, 0}, {1, -1}, {1, 10}, {-1, 3}, {Integer.MAX_VALUE, 0}, {2, Integer.MIN_VALUE}};
        for (int[] nc : no) {
            check.due("search of none such", x.search(nc[0], nc[1]), -100000000);
            check.due("bar of none such", x.bar(nc[0], nc[1]), -1);
        }
    }

    private static void enoughAndOpen() {
        check.about("promises 25 and 26");
        BlinkerCross x = Check.of(StateTest.TEXT);
        int[][] due = {{20, 11, -2, -1}, {6, -2, 5, -1}, {-2, 0, -2, -1}, {-1, -1, -1, -1}};
        for (int g = 0; g < 4; g++) {
            for (int r = 0; r < 4; r++) {
                check.due("enough(" + g + ", " + r + ")", x.enough(g, r), due[g][r]);
            }
        }
        check.due("enough(-1, 0)", x.enough(-1, 0), -1);
        check.due("enough(0, -1)", x.enough(0, -1), -1);
        BlinkerCross y = Check.of("road a 1;road b 1;goer p a 2;goer q b 2;wants p a 99;wants q a 99;");
        check.due("none is enough", y.enough(0, 1), -2);
        check.due("99 is enough", y.enough(1, 1), 99);
        check.due("one alone", y.enough(0, 0), 0);
        int[] open = {3, 3, 1, -1};
        for (int g = 0; g < 4; g++) {
            check.due("open(" + g + ")", x.open(g), open[g]);
        }
        check.due("open(-1)", x.open(-1), -1);
        check.due("open with no WANTS", Check.of("road a 1;road b 1;goer p a 2;").open(0), 1);
    }

    private static void crowdedAndSame() {
        check.about("promises 27 and 28");
        BlinkerCross x = Check.of(StateTest.TEXT);
        check.due("crowded(0)", x.crowded(0), 1);
        check.due("crowded(1)", x.crowded(1), 2);
        check.due("crowded(2)", x.crowded(2), -1);
        check.due("crowded(-1)", x.crowded(-1), -1);
        check.due("no ROADS", new BlinkerCross().crowded(0), -2);
        check.due("no ROADS", new BlinkerCross().crowded(1), -2);
        check.due("no ROADS, no such", new BlinkerCross().crowded(2), -1);
        check.due("no GOERS", Check.of("road a 1;road b 1;").crowded(0), 0);
        check.due("no GOERS", Check.of("road a 1;road b 1;").crowded(1), 0);
        BlinkerCross y = Check.of("road a 1;road b 1;road c 1;goer p c 1;goer q b 1;");
        check.due("of alike ones the first", y.crowded(0), 1);
        int[] same = {4, 0, 1, -1};
        for (int g = 0; g < 4; g++) {
            check.due("same(" + g + ")", x.same(g), same[g]);
        }
        check.due("same(-1)", x.same(-1), -1);
    }

    private static void inDays() {
        check.about("promises 29 and 30");
        BlinkerCross x = Check.of(StateTest.TEXT);
        x.days(2);
        check.due("then(0, 0, 0)", x.then(0, 0, 0), 4);
        check.due("then(0, 5, 0)", x.then(0, 5, 0), 14);
        check.due("then(0, 60, 0)", x.then(0, 60, 0), 124);
        check.due("then(0, 60, 1)", x.then(0, 60, 1), 0);
        check.due("then(1, 60, 2)", x.then(1, 60, 2), 2);
        check.due("gainedIn(0, 0)", x.gainedIn(0, 0), 36);
        check.due("gainedIn(2, 60)", x.gainedIn(2, 60), 62 * 38);
        int[][] no = {{-1, 1, 0}, {3, 1, 0}, {0, -1, 0}, {0, 61, 0}, {0, 1, 3}, {0, 1, -1}};
        for (int[] a : no) {
            check.due("then of none such", x.then(a[0], a[1], a[2]), -1);
        }
        for (int i = 0; i < 4; i++) {
            check.due("gainedIn of none such", x.gainedIn(no[i][0], no[i][1]), -100000);
        }
        // LOTs of the seed 7: 67 40 73, then 60 75 15
        BlinkerCross y = Check.of(StateTest.TEXT + "seed 7;turns=68;keeps=1;");
        int[][] faces = {{0, 2, 1}, {1, 0, 1}, {2, 0, 2}};
        for (int n = 0; n < 3; n++) {
            for (int g = 0; g < 3; g++) {
                check.due("then(" + g + ", " + n + ", 1)", y.then(g, n, 1), faces[n][g]);
            }
        }
        check.due("then(0, 1, 2)", y.then(0, 1, 2), 1);
        // on the second day all see one: ann e, bob n, cy e
        check.due("gainedIn(0, 2)", y.gainedIn(0, 2), 18 + 18);
        check.due("gainedIn(1, 2)", y.gainedIn(1, 2), 4 + 4);
        check.due("below 0", Check.of("road a 1;goer p a 1;crowds=5;").gainedIn(0, 60), -300);
    }

    private static void years() {
        check.about("promise 31");
        // LOTs of the seeds 9999 and 10000: 23, 32, then 29, 71
        BlinkerCross x = Check.of("road a 1;road b 1;goer p a 1;turns=30;seed 9999;");
        check.due("year(0, 1, 1, 2)", x.year(0, 1, 1, 2), 1);
        check.due("year(0, 0, 1, 2)", x.year(0, 0, 1, 2), 1);
        check.due("year(0, 1, 1, 1)", x.year(0, 1, 1, 1), 1);
        check.due("year(0, 0, 1, 1)", x.year(0, 0, 1, 1), 0);
        check.due("year(0, 0, 2, 2)", x.year(0, 0, 2, 2), 2);
        check.due("year(0, 1, 2, 2)", x.year(0, 1, 2, 2), 0);
        check.due("year(0, 0, 0, 20)", x.year(0, 0, 0, 20), 20);
        // LOTs of the seeds 7, 8, 9: 67, 55, 29; of 6: 17
        BlinkerCross y = Check.of("road a 1;road b 1;goer p a 1;turns=50;seed 7;");
        check.due("year(0, 1, 1, 2)", y.year(0, 1, 1, 2), 0);
        check.due("year(0, 1, 1, 3)", y.year(0, 1, 1, 3), 1);
        check.due("both, in 60 days", x.year(0, 0, 60, 20) + x.year(0, 1, 60, 20), 20);
        int[][] no = {{-1, 0, 1, 1}, {1, 0, 1, 1}, {0, -1, 1, 1}, {0, 2, 1, 1}, {0, 0, -1, 1}, {0, 0, 61, 1},
            {0, 0, 1, 0}, {0, 0, 1, 21}};
        for (int[] a : no) {
            check.due("year of none such", x.year(a[0], a[1], a[2], a[3]), -1);
        }
    }

    /** What would be is asked for; how it is stays. */
    private static void nothingHappens() {
        check.about("nothing happens");
        BlinkerCross x = Check.of(StateTest.TEXT + "seed 7;turns=68;keeps=which;");
        x.days(1);
        int[] before = all(x);
        x.plan(20, -1);
        x.rests();
        x.bestRest(0);
        x.bestGiving(0);
        x.settles();
        x.oneEach(0);
        x.closing();
        x.enough(0, 0);
        x.open(0);
        x.then(0, 60, 0);
        x.gainedIn(0, 60);
        x.year(0, 0, 60, 20);
        x.who(0, 0);
        x.look(0, 1);
        int[] after = all(x);
        for (int i = 0; i < before.length; i++) {
            check.due("number " + i, after[i], before[i]);
        }
    }

    private static int[] all(BlinkerCross x) {
        int[] out = new int[3 * 12 + 16];
        for (int g = 0; g < 3; g++) {
            for (int what = 0; what <= 10; what++) {
                out[g * 12 + what] = x.goer(g, what);
            }
            out[g * 12 + 11] = x.gained(g);
        }
        for (int what = 0; what < 16; what++) {
            out[36 + what] = x.count(what);
        }
        return out;
    }
}
