/** Boundary cases of promises 16 to 31: what would be. */
public final class EdgesAheadTest {
    private static final Check check = new Check();

    private static final int MIN = Integer.MIN_VALUE;
    private static final int MAX = Integer.MAX_VALUE;
    private static final String TWO = "road a 1;road b 1;";
    private static final String THREE = "road a 1;road b 1;road c 1;";
    private static final String SIX = "road a 1;road b 1;road c 1;road d 1;road e 1;road f 1;";
    private static final String FIVE = "goer p a 1;goer q a 1;goer r a 1;goer s a 1;goer t a 1;";
    private static final String PAIR = "road a 4;road b 9;goer p a 2;goer q b 1;wants p b 7;wants q a 3;wants q b 2;";
    /** Two goers who see both roads: a wanted by 9, b by 8. */
    private static final String BOTH = TWO + "goer p a 2;goer q a 2;wants p a 9;wants p b 8;wants q a 9;wants q b 8;";

    public static void main(String[] args) throws ReflectiveOperationException {
        Edges.run(EdgesAheadTest.class, check, 16, 31);
    }

    // ---- promise 16: plan

    /** MISSED, STANDS and the SIGHTS, or -3 for each. */
    private static void plan(BlinkerCross x, int t, int... due) {
        check.due("plan(" + t + ", -1)", x.plan(t, -1), due[0]);
        check.due("plan(" + t + ", -2)", x.plan(t, -2), due[1]);
        for (int g = 0; g + 2 < due.length; g++) {
            check.due("plan(" + t + ", " + g + ")", x.plan(t, g), due[g + 2]);
        }
    }

    static void p16TimesFrom0To999() {
        BlinkerCross x = Check.of(PAIR);
        for (int t : new int[] {-1, -2, 1000, 1001, MIN, MAX}) {
            plan(x, t, -1, -1, -1, -1);
        }
        // all seen: p sees b, q sees a behind it
        plan(x, 999, 0, 4, 2, 2);
        plan(x, 0, -3, -3, -3, -3);
        plan(Check.of(PAIR + "stands=0;"), 0, 0, 0, 2, 2);
    }

    static void p16NoSuchGoer() {
        BlinkerCross x = Check.of(PAIR);
        for (int i : new int[] {-3, -4, 2, 3, 5, MIN, MAX}) {
            check.due("plan(999, " + i + ")", x.plan(999, i), -1);
        }
    }

    static void p16ByNone() {
        BlinkerCross x = Check.of(PAIR);
        plan(x, 2, 7 + 1, 2, 1, 1);
        plan(x, 1, -3, -3, -3, -3);
        plan(x, 0, -3, -3, -3, -3);
        BlinkerCross y = Check.of(TWO + FIVE + "stands=99;");
        plan(y, 495, 0, 495, 1, 1, 1, 1, 1);
        plan(y, 494, -3, -3, -3, -3, -3, -3, -3);
    }

    static void p16StandsOfAllAreSoMuchOrLess() {
        BlinkerCross x = Check.of(TWO + "goer p a 1;wants p b 5;stands=seen*20;");
        plan(x, 41, 0, 40, 2);
        plan(x, 40, 0, 40, 2);
        plan(x, 39, 5, 20, 1);
        plan(x, 20, 5, 20, 1);
        plan(x, 19, -3, -3, -3);
    }

    static void p16LeastIsMissedWhateverItStands() {
        BlinkerCross x = Check.of(TWO + "goer p a 1;wants p b 1;stands=if seen<2 then 1 else 99;");
        plan(x, 99, 0, 99, 2);
        plan(x, 98, 1, 1, 1);
        plan(x, 1, 1, 1, 1);
    }

    static void p16ThenStandsLeast() {
        BlinkerCross x = Check.of(THREE + "goer p a 1;stands=if seen<2 then 7 else if seen<3 then 4 else 5;");
        plan(x, 99, 0, 4, 2);
        plan(x, 4, 0, 4, 2);
        plan(x, 3, -3, -3, -3);
    }

    static void p16OfAlikeOnesTheLowestForTheFirst() {
        // one of the two on b, one on a: they do not crowd one another
        BlinkerCross x = Check.of(TWO + "goer p a 1;goer q a 1;wants p b 1;wants q b 1;stands=if here<2 then 1 else 5;");
        plan(x, 10, 0, 10, 2, 2);
        plan(x, 9, 1, 2, 1, 2);
        plan(x, 2, 1, 2, 1, 2);
        plan(x, 1, -3, -3, -3, -3);
    }

    static void p16ThenForTheNextOne() {
        BlinkerCross x = Check.of(TWO + "goer p a 1;goer q a 1;goer r a 1;wants p b 1;wants q b 1;wants r b 1;"
                + "stands=seen-1;");
        plan(x, 0, 3, 0, 1, 1, 1);
        plan(x, 1, 2, 1, 1, 1, 2);
        plan(x, 2, 1, 2, 1, 2, 2);
        plan(x, 3, 0, 3, 2, 2, 2);
        plan(Check.of(SIX + FIVE + "stands=7;"), 99, 0, 35, 1, 1, 1, 1, 1);
    }

    static void p16SightsAsManyAsThereAreRoadsAtMost() {
        String roads = "";
        for (int n = 1; n <= 6; n++) {
            String last = "abcdef".substring(n - 1, n);
            roads += "road " + last + " 1;";
            BlinkerCross x = Check.of(roads + "goer p a 6;wants p " + last + " 9;");
            plan(x, 999, 0, n, n);
            plan(x, n - 1, n == 1 ? -3 : 9, n == 1 ? -3 : 1, n == 1 ? -3 : 1);
        }
    }

    static void p16WhateverTheSightsAreNow() {
        BlinkerCross x = Check.of(THREE + "goer p a 1;goer q c 6;wants p c 9;wants q b 4;keeps=1;turns=100;");
        plan(x, 6, 0, 6, 3, 3);
        x.flap(0, 6);
        x.flap(1, 1);
        plan(x, 6, 0, 6, 3, 3);
        x.days(3);
        x.flap(0, 2);
        // behind three days they face a and c again
        plan(x, 6, 0, 6, 3, 3);
    }

    static void p16LawsByTheSightsOfThePlan() {
        // a is seen with SIGHT 1, b is chosen with more; c is seen with 3, and is no reason to
        String text = "road a 1;road b 7;road c 1;goer p a 3;wants p a 5;wants p b 9;wants p c 2;stands=";
        plan(Check.of(text + "next;"), 9, 0, 5, 2);
        plan(Check.of(text + "next;"), 4, 4, 0, 1);
        plan(Check.of(text + "want;"), 9, 0, 9, 2);
        plan(Check.of(text + "want;"), 8, 4, 5, 1);
        plan(Check.of(text + "wide;"), 7, 0, 7, 2);
        plan(Check.of(text + "wide;"), 6, 4, 1, 1);
        plan(Check.of(text + "9-seen;"), 9, 0, 6, 3);
        plan(Check.of(text + "seen;"), 1, 4, 1, 1);
        plan(Check.of(text + "roads*seen;"), 6, 0, 6, 2);
    }

    static void p16NextByTheSightsOfThePlan() {
        // a is chosen by each SIGHT: next is 0, 4, 6, whichever the SIGHT is now
        for (int now = 1; now <= 3; now++) {
            String text = THREE + "goer p a " + now + ";wants p a 9;wants p b 4;wants p c 6;stands=if seen<";
            plan(Check.of(text + "1 then 99 else next;"), 9, 0, 0, 1);
            plan(Check.of(text + "2 then 99 else next;"), 9, 0, 4, 2);
            plan(Check.of(text + "3 then 99 else next;"), 9, 0, 6, 3);
        }
        // faced is c: next is 0, 9, 9, as c, a, b are seen
        String text = THREE + "goer p c 1;wants p a 9;wants p b 4;wants p c 10;stands=if seen<";
        plan(Check.of(text + "2 then 99 else next-seen;"), 99, 0, 6, 3);
        plan(Check.of(text + "2 then 99 else next+seen;"), 99, 0, 11, 2);
    }

    static void p16StandsHeldTo0To99() {
        String text = TWO + "goer p a 1;goer q a 1;stands=";
        plan(Check.of(text + "if which<1 then 500 else 3;"), 999, 0, 102, 1, 1);
        plan(Check.of(text + "if which<1 then 500 else 3;"), 101, -3, -3, -3, -3);
        plan(Check.of(text + "if which<1 then 0-500 else 3;"), 999, 0, 3, 1, 1);
        plan(Check.of(text + "if which<1 then 0-500 else 3;"), 2, -3, -3, -3, -3);
        plan(Check.of(text + "9+1/which;"), 999, 0, 10, 1, 1);
    }

    static void p16SetNow() {
        BlinkerCross x = Check.of("road a 1;goer p a 1;stands=stood+day+seen;");
        plan(x, 1, 0, 1, 1);
        x.days(1);
        plan(x, 3, 0, 3, 1);
        plan(x, 2, -3, -3, -3);
        x.undo();
        plan(x, 2, 0, 1, 1);
    }

    static void p16WithoutGoers() {
        plan(new BlinkerCross(), 0, 0, 0);
        plan(Check.of(SIX), 0, 0, 0);
        plan(Check.of(SIX), 999, 0, 0, -1);
    }

    // ---- promises 16 to 22, asked for between things that are done

    private static final String TURNING = SIX + "goer p a 2;goer q d 5;goer r f 3;wants p a 60;wants p b 80;wants p d 90;"
            + "wants q a 75;wants q e 75;wants q f 70;wants r f 40;wants r b 95;wants r c 95;seed 12;turns=60;"
            + "keeps=day-2;stands=here*3+seen+day;crowds=here*here*wide+stood/7-which*9;";

    /** Things that are done, one behind the other; the last one reads another text. */
    private static void doThing(BlinkerCross x, int thing) {
        switch (thing) {
            case 0: x.wish(0, 1, 10); break;
            case 1: x.flap(1, 1); break;
            case 2: x.hold(1); break;
            case 3: x.turn(2, 1); break;
            case 4: x.days(2); break;
            case 5: x.undo(); break;
            case 6: x.wish(1, 0, 99); break;
            case 7: x.restore(1); break;
            case 8: x.days(5); break;
            default:
                Check.feed(x, "road a 3;road b 1;goer p b 2;goer q a 2;wants p a 8;wants q b 3;crowds=here*9;");
                x.read();
                break;
        }
    }

    private static int[] ask(BlinkerCross x, int promise) {
        switch (promise) {
            case 16: return new int[] {x.plan(12, -1), x.plan(12, -2), x.plan(12, 0), x.plan(12, 1), x.plan(30, -1),
                x.plan(30, 0)};
            case 17: return new int[] {x.rests()};
            case 18: return new int[] {x.bestRest(-1), x.bestRest(0), x.bestRest(1)};
            case 19: return new int[] {x.bestGiving(-1), x.bestGiving(0), x.bestGiving(1)};
            case 20: return new int[] {x.settles()};
            case 21: return new int[] {x.oneEach(-1), x.oneEach(0), x.oneEach(1)};
            case 22: return new int[] {x.closing()};
            case 23: return new int[] {x.search(6, 0), x.search(2, 9)};
            case 24: return new int[] {x.bar(6, 0), x.bar(2, 9)};
            case 25: return new int[] {x.enough(0, 0), x.enough(2, 5)};
            case 26: return new int[] {x.open(0), x.open(2)};
            case 27: return new int[] {x.crowded(0), x.crowded(1)};
            case 28: return new int[] {x.same(0), x.same(2)};
            case 29: return new int[] {x.then(0, 60, 0), x.then(1, 9, 1), x.then(2, 3, 2)};
            case 30: return new int[] {x.gainedIn(0, 60), x.gainedIn(2, 1)};
            default: return new int[] {x.year(0, 0, 60, 20), x.year(2, 5, 1, 3)};
        }
    }

    /** What is asked for behind each thing, and behind another question, is as if it were asked for alone. */
    private static void askedBetween(int promise) {
        BlinkerCross x = Check.of(TURNING);
        for (int thing = 0; thing < 10; thing++) {
            for (int i = 0; i < 7; i++) {
                ask(x, 16 + i);
            }
            doThing(x, thing);
            BlinkerCross y = Check.of(TURNING);
            for (int t = 0; t <= thing; t++) {
                doThing(y, t);
            }
            int[] alone = ask(y, promise);
            for (int i = 1; i <= 2; i++) {
                int other = 16 + (promise - 16 + i + thing % 5) % 7;
                ask(x, other);
                check.same("behind thing " + thing + " and promise " + other, ask(x, promise), alone);
            }
        }
    }

    static void p16AskedBetweenThingsThatAreDone() {
        askedBetween(16);
    }

    static void p17AskedBetweenThingsThatAreDone() {
        askedBetween(17);
    }

    static void p18AskedBetweenThingsThatAreDone() {
        askedBetween(18);
    }

    static void p19AskedBetweenThingsThatAreDone() {
        askedBetween(19);
    }

    static void p20AskedBetweenThingsThatAreDone() {
        askedBetween(20);
    }

    static void p21AskedBetweenThingsThatAreDone() {
        askedBetween(21);
    }

    static void p22AskedBetweenThingsThatAreDone() {
        askedBetween(22);
    }

    // ---- promise 17: rests, 18: bestRest, 19: bestGiving

    static void p17NoGoersOneRest() {
        check.due("no ROADS", new BlinkerCross().rests(), 1);
        check.due("ROADS", Check.of(SIX).rests(), 1);
    }

    static void p17AsMuchGainIsNotMore() {
        BlinkerCross x = Check.of(TWO + "goer p a 2;wants p a 5;wants p b 5;");
        check.due("alike", x.rests(), 2);
        x.wish(0, 1, 6);
        check.due("one more", x.rests(), 1);
        x.wish(0, 1, 4);
        check.due("one less", x.rests(), 1);
    }

    static void p17AsManyTakingItAsWouldThen() {
        // both on one road gain 5 - 2, each alone 5 - 1: who joins gains less, who leaves gains more
        BlinkerCross x = Check.of(TWO + "goer p a 2;goer q a 2;wants p a 5;wants p b 5;wants q a 5;wants q b 5;");
        check.due("one on each", x.rests(), 2);
        // b by one more: to join it is as good as to be alone on a
        x.wish(0, 1, 6);
        check.due("p joins, gains as much", x.rests(), 2);
        x.wish(0, 1, 7);
        check.due("p is on b, q on a", x.rests(), 1);
    }

    static void p17OnlyRoadsThatTheySee() {
        BlinkerCross x = Check.of(THREE + "goer p c 2;wants p b 99;");
        check.due("b is not seen; c and a alike", x.rests(), 2);
        x.flap(0, 1);
        check.due("one road", x.rests(), 1);
        x.flap(0, 3);
        check.due("all", x.rests(), 1);
        check.due("on b", x.bestRest(0), 1);
    }

    /** The one wants to be where the other is, who wants to be alone. */
    private static BlinkerCross chase() {
        return Check.of(TWO + "goer p a 2;goer q a 2;wants p a 50;wants p b 50;wants q a 50;wants q b 50;"
                + "crowds=if which<1 then 20-here*10 else here*10;");
    }

    static void p17ThereMayBeNone() {
        check.due("rests()", chase().rests(), 0);
    }

    static void p17AllThereAre() {
        BlinkerCross x = Check.of(SIX + "goer p a 6;goer q a 6;goer r a 6;goer s a 6;goer t a 6;crowds=0;");
        check.due("6 to the power of 5", x.rests(), 7776);
        x.turn(4, 5);
        x.flap(4, 1);
        check.due("6 to the power of 4", x.rests(), 1296);
    }

    static void p18ThereIsNone() {
        BlinkerCross x = chase();
        for (int i = -1; i < 2; i++) {
            check.due("bestRest(" + i + ")", x.bestRest(i), -100000);
        }
    }

    static void p18NoSuchGoer() {
        BlinkerCross x = Check.of(PAIR);
        for (int i : new int[] {-2, -3, 2, 3, 5, MIN, MAX}) {
            check.due("bestRest(" + i + ")", x.bestRest(i), -100000);
        }
        check.due("the last GOER", x.bestRest(1), 1);
        check.due("no GOERS: how much", new BlinkerCross().bestRest(-1), 0);
        check.due("no GOERS: the first", new BlinkerCross().bestRest(0), -100000);
    }

    static void p18MayBeBelow0() {
        BlinkerCross x = Check.of("road a 1;" + FIVE + "crowds=99;");
        check.due("bestRest(-1)", x.bestRest(-1), -495);
        check.due("bestRest(4)", x.bestRest(4), 0);
        check.due("0", Check.of("road a 1;goer p a 1;crowds=0;").bestRest(-1), 0);
        check.due("-1", Check.of("road a 1;goer p a 1;crowds=1;").bestRest(-1), -1);
        // alone is worst: both on a gain -10 each, both on b -6
        BlinkerCross y = Check.of(TWO + "goer p a 2;goer q a 2;wants p a 20;wants p b 24;wants q a 20;wants q b 24;"
                + "crowds=if here<2 then 50 else 30;");
        check.due("rests()", y.rests(), 2);
        check.due("the better one", y.bestRest(-1), -12);
        check.due("bestRest(0)", y.bestRest(0), 1);
        check.due("bestRest(1)", y.bestRest(1), 1);
    }

    static void p18WithMostGain() {
        // alone is worst: both on a gain -6 each, both on b -10; then the other way round
        String text = TWO + "goer p a 2;goer q a 2;crowds=if here<2 then 50 else 30;";
        BlinkerCross x = Check.of(text + "wants p a 24;wants p b 20;wants q a 24;wants q b 20;");
        check.due("rests()", x.rests(), 2);
        check.due("the first is better", x.bestRest(-1), -12);
        check.due("bestRest(0)", x.bestRest(0), 0);
        check.due("bestRest(1)", x.bestRest(1), 0);
        x = Check.of(text + "wants p a 20;wants p b 20;wants q a 20;wants q b 21;");
        check.due("rests()", x.rests(), 2);
        check.due("the last is better", x.bestRest(-1), -19);
        check.due("bestRest(0)", x.bestRest(0), 1);
        check.due("bestRest(1)", x.bestRest(1), 1);
    }

    static void p18OfAlikeOnesTheLowestForTheFirst() {
        BlinkerCross x = Check.of(TWO + "goer p b 2;goer q a 2;wants p a 5;wants p b 5;wants q a 5;wants q b 5;");
        check.due("rests()", x.rests(), 2);
        check.due("bestRest(-1)", x.bestRest(-1), 8);
        check.due("bestRest(0)", x.bestRest(0), 0);
        check.due("bestRest(1)", x.bestRest(1), 1);
    }

    /** Three goers, three roads, one road for each: 5 less 2; whoever joins another gains 1. */
    private static BlinkerCross threes() {
        StringBuilder text = new StringBuilder(THREE + "goer p c 3;goer q b 3;goer r a 3;crowds=here*2;");
        for (int i = 0; i < 9; i++) {
            text.append("wants ").append("pqr".charAt(i / 3)).append(' ').append("abc".charAt(i % 3)).append(" 5;");
        }
        return Check.of(text.toString());
    }

    static void p18ThenForTheNextOne() {
        BlinkerCross x = threes();
        check.due("rests()", x.rests(), 6);
        check.due("bestRest(-1)", x.bestRest(-1), 9);
        for (int g = 0; g < 3; g++) {
            check.due("bestRest(" + g + ")", x.bestRest(g), g);
        }
    }

    static void p19NoSuchGoer() {
        BlinkerCross x = Check.of(PAIR);
        for (int i : new int[] {-2, -3, 2, 3, 5, MIN, MAX}) {
            check.due("bestGiving(" + i + ")", x.bestGiving(i), -100000);
        }
        check.due("the last GOER", x.bestGiving(1), 1);
        check.due("no GOERS: how much", new BlinkerCross().bestGiving(-1), 0);
        check.due("no GOERS: the first", new BlinkerCross().bestGiving(0), -100000);
    }

    /** With more roads than goers, with fewer, and with none: a goer's number is no road's. */
    static void p19AsManyAsThereAreGoersHoweverManyRoads() {
        BlinkerCross x = Check.of(SIX + "goer p a 6;goer q a 6;");
        BlinkerCross y = Check.of("road a 1;" + FIVE);
        for (int i = 0; i < 7; i++) {
            check.due("six roads: bestGiving(" + i + ")", x.bestGiving(i), i < 2 ? i : -100000);
            check.due("six roads: bestRest(" + i + ")", x.bestRest(i), i < 2 ? i : -100000);
            check.due("six roads: oneEach(" + i + ")", x.oneEach(i), i < 2 ? -2 : -1);
            check.due("six roads: plan(9, " + i + ")", x.plan(9, i), i < 2 ? 1 : -1);
            check.due("one road: bestGiving(" + i + ")", y.bestGiving(i), i < 5 ? 0 : -100000);
            check.due("one road: bestRest(" + i + ")", y.bestRest(i), i < 5 ? 0 : -100000);
            check.due("one road: oneEach(" + i + ")", y.oneEach(i), i < 5 ? -2 : -1);
            check.due("one road: plan(9, " + i + ")", y.plan(9, i), i < 5 ? 1 : -1);
        }
    }

    static void p19MayBeBelow0() {
        BlinkerCross x = Check.of(TWO + "goer p a 2;wants p a 1;wants p b 3;crowds=9;");
        check.due("bestGiving(-1)", x.bestGiving(-1), -6);
        check.due("bestGiving(0)", x.bestGiving(0), 1);
        x.wish(0, 0, 2);
        check.due("bestGiving(-1) again", x.bestGiving(-1), -6);
        x.wish(0, 1, 1);
        check.due("bestGiving(-1), the other road", x.bestGiving(-1), -7);
        check.due("bestGiving(0)", x.bestGiving(0), 0);
        BlinkerCross y = Check.of("road a 1;" + FIVE + "crowds=99;");
        check.due("bestGiving(-1)", y.bestGiving(-1), -495);
    }

    static void p19GainByCrowdsHeldTo0To99() {
        String text = TWO + "goer p a 2;wants p a 1;wants p b 4;crowds=";
        check.due("more than 99", Check.of(text + "500;").bestGiving(-1), 4 - 99);
        check.due("below 0", Check.of(text + "0-500;").bestGiving(-1), 4);
        check.due("by the road", Check.of(text + "500-want*100;").bestGiving(-1), 4 - 99);
        check.due("bestRest(-1)", Check.of(text + "500;").bestRest(-1), 4 - 99);
        check.due("settles()", Check.of(text + "100+want*100;").settles(), 0);
    }

    static void p19RestOrNot() {
        BlinkerCross x = chase();
        check.due("bestGiving(-1)", x.bestGiving(-1), 80);
        check.due("bestGiving(0)", x.bestGiving(0), 0);
        check.due("bestGiving(1)", x.bestGiving(1), 0);
        // both on a, 1 each, is the only rest; one on a, one on b gain 5 and 0
        BlinkerCross y = Check.of("road a 1;road b 2;goer p a 2;goer q a 2;wants p a 9;wants p b 4;wants q a 9;"
                + "wants q b 4;crowds=if wide<2 then here*4 else (3-here)*2;");
        check.due("rests()", y.rests(), 1);
        check.due("bestRest(-1)", y.bestRest(-1), 2);
        check.due("bestRest(0)", y.bestRest(0), 0);
        check.due("bestRest(1)", y.bestRest(1), 0);
        check.due("bestGiving(-1)", y.bestGiving(-1), 5);
        check.due("bestGiving(0)", y.bestGiving(0), 0);
        check.due("bestGiving(1)", y.bestGiving(1), 1);
    }

    static void p19OfAlikeOnesTheLowestForTheFirstThenTheNext() {
        BlinkerCross x = threes();
        check.due("bestGiving(-1)", x.bestGiving(-1), 9);
        for (int g = 0; g < 3; g++) {
            check.due("bestGiving(" + g + ")", x.bestGiving(g), g);
        }
    }

    static void p19OneOfTheRoadsThatTheySee() {
        BlinkerCross x = Check.of(THREE + "goer p b 1;goer q c 2;wants p a 99;wants q b 99;wants q a 9;");
        check.due("bestGiving(-1)", x.bestGiving(-1), -1 + 8);
        check.due("bestGiving(0)", x.bestGiving(0), 1);
        check.due("bestGiving(1)", x.bestGiving(1), 0);
    }

    // ---- promise 20: settles

    static void p20BehindNoRound() {
        check.due("no GOERS", new BlinkerCross().settles(), 0);
        check.due("one road each", Check.of(TWO + FIVE).settles(), 0);
        check.due("the CHOICES are at rest", Check.of(PAIR).settles(), 0);
    }

    static void p20BehindOneRound() {
        check.due("p leaves a to q", Check.of(BOTH + "crowds=here*2;").settles(), 1);
        // p alone leaves: as p has it then, q stays
        check.due("one behind the other", Check.of(BOTH + "crowds=here*9;").settles(), 1);
    }

    static void p20Behind20RoundsAndNotLater() {
        check.due("20 rounds", WouldBeTest.longWay(WouldBeTest.TWENTY).settles(), 20);
        check.due("21 rounds", WouldBeTest.longWay(WouldBeTest.MORE).settles(), -2);
        check.due("never", chase().settles(), -2);
    }

    static void p20StayingIfThatIsAsGood() {
        BlinkerCross x = Check.of(TWO + "goer p b 2;wants p a 9;wants p b 9;crowds=2;");
        check.due("as good", x.settles(), 0);
        x = Check.of(TWO + "goer p a 2;wants p a 9;wants p b 8;crowds=if 8<want then 2 else 1;");
        check.due("9 less 2, 8 less 1", x.settles(), 0);
        x = Check.of(TWO + "goer p a 2;wants p a 9;wants p b 8;crowds=if 8<want then 3 else 1;");
        check.due("9 less 3, 8 less 1", x.settles(), 1);
    }

    static void p20OfOthersTheOneSeenFirst() {
        // q, alone on b, leaves it for c once p comes, who gains as much on b and c: so two rounds
        String text = "goer q b 2;goer p a 3;wants q b 6;wants q c 3;wants p a 9;wants p b 5;wants p c 5;"
                + "crowds=if 0<which then want/9*50 else here*10-10;";
        check.due("b is seen ahead of c", Check.of(THREE + text).settles(), 2);
        check.due("c is seen ahead of b", Check.of("road a 1;road c 1;road b 1;" + text).settles(), 1);
        // p faces c of a, b, c: seen are c, a, b; the last one is where q is
        check.due("a is seen ahead of b", Check.of("road b 1;road c 1;road a 1;goer q b 2;goer p c 3;wants q b 6;"
                + "wants q c 3;wants p c 9;wants p a 5;wants p b 5;crowds=if 0<which then want/9*50 else here*10-10;")
                .settles(), 1);
        check.due("the lowest is seen last", Check.of("road a 1;road c 1;road b 1;goer q b 2;goer p c 3;wants q b 6;"
                + "wants q a 3;wants p c 9;wants p a 5;wants p b 5;crowds=if 0<which then want/9*50 else here*10-10;")
                .settles(), 2);
    }

    static void p20AsManyOnEachAsTheOthersHaveIt() {
        // p faces b, 50 less 45; of the others c gives 30 less 10, a 25 less 10
        String wants = "wants p b 50;wants p c 30;wants p a 25;crowds=if want<50 then here*10 else 45;";
        check.due("to c at once", Check.of(THREE + "goer p b 3;" + wants).settles(), 1);
        check.due("to c at once, seen last", Check.of("road c 1;road b 1;road a 1;goer p b 3;" + wants).settles(), 1);
        // r is on c: there it is 30 less 20, so that it is a
        check.due("to a at once", Check.of(THREE + "goer p b 3;goer r c 1;" + wants).settles(), 1);
    }

    static void p20OfMostGain() {
        check.due("straight to b", Check.of(THREE + "goer p a 3;wants p a 9;wants p b 5;wants p c 4;"
                + "crowds=if want<9 then 0 else 9;").settles(), 1);
        check.due("straight to c", Check.of(THREE + "goer p a 3;wants p a 9;wants p b 4;wants p c 5;"
                + "crowds=if want<9 then 0 else 9;").settles(), 1);
        check.due("not to what is not seen", Check.of(THREE + "goer p a 1;wants p a 9;wants p b 4;"
                + "crowds=if want<9 then 0 else 9;").settles(), 0);
    }

    // ---- promise 21: oneEach

    private static void each(BlinkerCross x, int... due) {
        for (int i = -1; i + 1 < due.length; i++) {
            check.due("oneEach(" + i + ")", x.oneEach(i), due[i + 1]);
        }
    }

    static void p21NoSuchGoer() {
        BlinkerCross x = Check.of(PAIR);
        for (int i : new int[] {-2, -3, 2, 3, 5, MIN, MAX}) {
            check.due("oneEach(" + i + ")", x.oneEach(i), -1);
        }
        each(new BlinkerCross(), 0, -1);
        each(Check.of(SIX), 0, -1);
    }

    static void p21MoreGoersThanRoads() {
        BlinkerCross x = Check.of(TWO + FIVE + "wants p a 1;wants q a 2;wants r a 3;wants s b 4;wants t b 3;");
        each(x, 7, -2, -2, 0, 1, -2);
    }

    static void p21SeenOrNot() {
        BlinkerCross x = Check.of(SIX + FIVE + "wants p b 99;wants q c 99;wants r d 99;wants s e 99;wants t f 99;");
        each(x, 495, 1, 2, 3, 4, 5);
    }

    static void p21NoneAheadOfAll() {
        each(Check.of(SIX + FIVE), 0, -2, -2, -2, -2, -2);
        BlinkerCross x = Check.of("road a 1;goer p a 1;goer q a 1;wants p a 5;wants q a 5;");
        each(x, 5, -2, 0);
        x.wish(0, 0, 6);
        each(x, 6, 0, -2);
        x.wish(0, 0, 4);
        each(x, 5, -2, 0);
        x.wish(1, 0, 0);
        each(x, 4, 0, -2);
    }

    static void p21NoneForTheNextOneByWhatIsTaken() {
        each(Check.of(THREE + "goer p a 1;goer q a 1;goer r a 1;wants p b 9;wants r a 5;"), 14, 1, -2, 0);
        each(Check.of(THREE + "goer p a 1;goer q a 1;goer r a 1;wants p c 9;wants q b 1;wants r b 5;"), 14, 2, -2, 1);
        each(Check.of(SIX + FIVE + "wants p f 9;wants r e 8;wants t d 7;"), 24, 5, -2, 4, -2, 3);
    }

    static void p21ThenTheLowestForTheFirst() {
        each(Check.of(SIX + "goer p f 1;wants p c 4;wants p e 4;wants p b 3;"), 4, 2);
        each(Check.of(TWO + "goer p a 1;goer q a 1;wants p a 5;wants p b 5;wants q a 5;wants q b 5;"), 10, 0, 1);
    }

    static void p21ThenForTheNextOne() {
        // p has none, or else a and another one none: q and r share b and c alike
        BlinkerCross x = Check.of(THREE + "goer p a 1;goer q a 1;goer r a 1;wants q b 5;wants q c 5;wants r b 5;wants r c 5;");
        each(x, 10, -2, 1, 2);
        each(threes(), 15, 0, 1, 2);
    }

    static void p21TheMostOfAllNotOfTheFirst() {
        each(Check.of(TWO + "goer p a 1;goer q a 1;wants p a 9;wants p b 8;wants q a 9;"), 17, 1, 0);
        each(Check.of(TWO + "goer p a 1;goer q a 1;wants p a 9;wants q a 10;"), 10, -2, 0);
    }

    // ---- promise 22: closing

    static void p22NoneToClose() {
        check.due("no ROADS", new BlinkerCross().closing(), 0);
        check.due("no GOERS", Check.of(SIX).closing(), 0);
        check.due("a road that nobody chooses", Check.of(TWO + FIVE + "crowds=9;").closing(), 1);
    }

    static void p22MoreGainNotAsMuch() {
        check.due("0 is as much as none", Check.of("road a 1;goer p a 1;wants p a 5;crowds=5;").closing(), 0);
        check.due("-1 is less than none", Check.of("road a 1;goer p a 1;wants p a 5;crowds=6;").closing(), 1);
        check.due("1 is more than none", Check.of("road a 1;goer p a 1;wants p a 5;crowds=4;").closing(), 0);
    }

    static void p22WhoSeesNoOtherTakesNone() {
        // both on a: 9 less 2 * 4 each. Without a: 8 less 4 for p, who sees b, and 0 for q
        String text = TWO + "goer p a 2;goer q a 1;wants p a 9;wants p b 8;wants q a 9;wants q b 99;crowds=here*";
        check.due("2 now, 4 without a", Check.of(text + "4;").closing(), 1);
        check.due("6 now, 5 without a", Check.of(text + "3;").closing(), 0);
        BlinkerCross x = Check.of(text + "4;");
        x.flap(1, 6);
        // q takes b, too, without a: 8 + 99 less 16; now q's CHOICE is b: 9 - 4 + 99 - 4
        check.due("who sees b takes it", x.closing(), 0);
    }

    static void p22NoneIsTakenHoweverFarTheySee() {
        BlinkerCross x = Check.of("road a 1;goer p a 6;wants p a 5;crowds=6;");
        check.due("one road", x.closing(), 1);
        // of the text ahead all roads were told, and on each one would have lost 99
        BlinkerCross y = Check.of(SIX + "goer p a 6;crowds=99;");
        check.due("closing()", y.closing(), 0);
        Check.feed(y, "road a 1;goer p a 6;wants p a 5;crowds=6;");
        check.due("read()", y.read(), 0);
        check.due("one road", y.closing(), 1);
    }

    static void p22OfTheOthersTheyTakeTheirChoice() {
        // seen are c, a, b. Without c: a and b are wanted alike, a is seen first and crowds nobody
        String text = "road a 1;road b 5;road c 9;goer p c 3;wants p a 4;wants p b 4;wants p c 9;crowds=";
        check.due("a: 4 less 1, c: 9 less 9", Check.of(text + "wide;").closing(), 4);
        check.due("b would be 4 less 5", Check.of(text + "if wide<2 then 5 else if wide<6 then 0 else 9;").closing(), 0);
        check.due("most wanted, not most gained", Check.of("road a 1;road b 5;road c 9;goer p c 3;wants p a 4;wants p b 5;"
                + "wants p c 9;crowds=wide;").closing(), 0);
    }

    static void p22SeenIsAsItIsNow() {
        String text = TWO + "goer p a 2;wants p a 9;wants p b 8;crowds=";
        // now 9 less 2; without a 8 less 0, were it one road that is seen
        check.due("2 seen", Check.of(text + "if seen<2 then 0 else 2;").closing(), 0);
        check.due("1 seen", Check.of(text + "if 1<seen then 2+want/9*9 else 99;").closing(), 1);
    }

    static void p22OfTheRoadsThatTheySeeNow() {
        // as told p sees b, too, and would gain 8 - 1 there; now p sees a alone
        BlinkerCross x = Check.of(TWO + "goer p a 2;wants p a 9;wants p b 8;keeps=1;crowds=if want<9 then 1 else 5;");
        check.due("with SIGHT 2", x.closing(), 1);
        x.days(1);
        check.due("with SIGHT 1", x.closing(), 0);
    }

    static void p22EachRoadByItself() {
        // a and f take more than they give, on c there is one who likes it
        BlinkerCross x = Check.of(SIX + "goer p a 1;goer q f 1;goer r c 1;wants r c 9;crowds=5;");
        check.due("closing()", x.closing(), 33);
    }

    static void p22MoreGainOfAllAddedNotOfEach() {
        // without a p comes to b, where q is: 9 less 1 and 9 less 1 now, then less 2 each
        BlinkerCross x = Check.of(TWO + "goer p a 2;goer q b 1;wants p a 9;wants p b 9;wants q b 9;");
        check.due("closing()", x.closing(), 0);
        // p gains 8 more by it, q loses 1
        x = Check.of(TWO + "goer p a 2;goer q b 1;wants p a 9;wants p b 9;wants q b 9;"
                + "crowds=if here<2 then (1-which)*9 else 1;");
        check.due("closing()", x.closing(), 1);
    }

    // ---- promises 23 and 24: search, bar

    /** By n and c, worked out outside by fractions. */
    private static final int[][] SEARCH = {
        {45, 35, 25, 15, 5, -5, -15, -25, -35, -45},
        {575, 430, 295, 170, 55, -50, -150, -250, -350, -450},
        {6450, 4650, 3085, 1740, 555, -500, -1500, -2500, -3500, -4500},
        {69150, 48250, 31340, 17480, 5555, -5000, -15000, -25000, -35000, -45000},
        {724050, 491250, 315360, 174960, 55555, -50000, -150000, -250000, -350000, -450000},
        {7492400, 4956250, 3161440, 1749920, 555555, -500000, -1500000, -2500000, -3500000, -4500000}};
    private static final int[][] BAR = {
        {0, 0, 0, 0, 0, 0, 0, 0, 0, 0},
        {5, 4, 3, 2, 1, 0, 0, 0, 0, 0},
        {6, 5, 3, 2, 1, 0, 0, 0, 0, 0},
        {7, 5, 4, 2, 1, 0, 0, 0, 0, 0},
        {7, 5, 4, 2, 1, 0, 0, 0, 0, 0},
        {8, 5, 4, 2, 1, 0, 0, 0, 0, 0}};
    private static final int[][] NO_SEARCH = {{0, 0}, {7, 0}, {-1, 0}, {8, 0}, {1, -1}, {1, 10}, {6, 10}, {6, -1}, {0, 10},
        {7, 9}, {MIN, 0}, {MAX, 0}, {1, MIN}, {1, MAX}};

    static void p23NoSuchOnes() {
        BlinkerCross x = new BlinkerCross();
        for (int[] a : NO_SEARCH) {
            check.due("search(" + a[0] + ", " + a[1] + ")", x.search(a[0], a[1]), -100000000);
        }
    }

    static void p23From1To6And0To9() {
        BlinkerCross x = new BlinkerCross();
        for (int n = 1; n <= 6; n++) {
            for (int c = 0; c <= 9; c++) {
                check.due("search(" + n + ", " + c + ")", x.search(n, c), SEARCH[n - 1][c]);
            }
        }
    }

    /** A look that costs as much as is expected: the last must be taken, worth 4.5 or not. */
    static void p23TheLastMustBe() {
        BlinkerCross x = new BlinkerCross();
        check.due("4.5 less 0, times 10", x.search(1, 0), 45);
        check.due("4.5 less 5, times 10", x.search(1, 5), -5);
        check.due("4.5 less 9, times 10", x.search(1, 9), -45);
        // whatever comes first is no less than -0.5: taken
        check.due("4.5 less 5, times 100", x.search(2, 5), -50);
    }

    static void p23WhateverTheRoadsAre() {
        BlinkerCross x = Check.of(PAIR);
        x.days(5);
        check.due("search(3, 2)", x.search(3, 2), 3085);
        check.due("bar(3, 2)", x.bar(3, 2), 3);
    }

    static void p24NoSuchOnes() {
        BlinkerCross x = new BlinkerCross();
        for (int[] a : NO_SEARCH) {
            check.due("bar(" + a[0] + ", " + a[1] + ")", x.bar(a[0], a[1]), -1);
        }
    }

    static void p24From1To6And0To9() {
        BlinkerCross x = new BlinkerCross();
        for (int n = 1; n <= 6; n++) {
            for (int c = 0; c <= 9; c++) {
                check.due("bar(" + n + ", " + c + ")", x.bar(n, c), BAR[n - 1][c]);
            }
        }
    }

    static void p24OfTheLast0() {
        BlinkerCross x = new BlinkerCross();
        for (int c = 0; c <= 9; c++) {
            check.due("bar(1, " + c + ")", x.bar(1, c), 0);
        }
    }

    /** With a cost of 4 one would have 0.5 by going on: 0 is less, 1 is not; with 5, less than 0. */
    static void p24NoLessThanByGoingOn() {
        BlinkerCross x = new BlinkerCross();
        check.due("bar(2, 4)", x.bar(2, 4), 1);
        check.due("bar(2, 5)", x.bar(2, 5), 0);
        check.due("bar(2, 0): 4.5", x.bar(2, 0), 5);
        check.due("bar(3, 1): 4.3", x.bar(3, 1), 5);
        check.due("bar(6, 0): 7.2405", x.bar(6, 0), 8);
    }

    // ---- promise 25: enough, 26: open

    static void p25NoSuchOnes() {
        BlinkerCross x = Check.of(PAIR);
        int[][] no = {{-1, 0}, {2, 0}, {0, -1}, {0, 2}, {5, 0}, {0, 6}, {MIN, 0}, {MAX, 0}, {0, MIN}, {0, MAX}, {2, 2}};
        for (int[] a : no) {
            check.due("enough(" + a[0] + ", " + a[1] + ")", x.enough(a[0], a[1]), -1);
        }
    }

    static void p25TheySeeItNot() {
        BlinkerCross x = Check.of(THREE + "goer p c 2;wants p b 99;wants p a 3;");
        check.due("b", x.enough(0, 1), -2);
        check.due("c, seen first", x.enough(0, 2), 3);
        check.due("a, seen second", x.enough(0, 0), 1);
        x.flap(0, 1);
        check.due("a", x.enough(0, 0), -2);
        check.due("c alone", x.enough(0, 2), 0);
    }

    static void p25NoneIs() {
        BlinkerCross x = Check.of(TWO + "goer p a 2;wants p a 99;");
        check.due("behind 99", x.enough(0, 1), -2);
        x.wish(0, 0, 98);
        check.due("behind 98", x.enough(0, 1), 99);
        x.wish(0, 0, 0);
        check.due("behind 0", x.enough(0, 1), 1);
        x.wish(0, 1, 99);
        check.due("ahead of 99", x.enough(0, 0), 99);
        x.wish(0, 1, 0);
        check.due("ahead of 0", x.enough(0, 0), 0);
    }

    static void p25WhateverTheWantForItIsNow() {
        BlinkerCross x = Check.of(THREE + "goer p b 3;wants p b 40;wants p c 50;wants p a 40;");
        // seen are b, c, a
        int[] due = {51, 50, 41};
        for (int want : new int[] {0, 40, 99}) {
            for (int r = 0; r < 3; r++) {
                int was = x.want(0, r);
                x.wish(0, r, want);
                check.due("enough(0, " + r + ") with " + want, x.enough(0, r), due[r]);
                x.wish(0, r, was);
            }
        }
    }

    /** The least that is enough is so, one less is not. */
    static void p25TheLeastByWhichItWouldBeTheirChoice() {
        BlinkerCross x = Check.of(SIX + "goer p d 5;wants p a 7;wants p b 30;wants p d 12;wants p e 30;wants p f 2;wants p c 9;");
        for (int r : new int[] {0, 1, 3, 4, 5}) {
            int was = x.want(0, r);
            int enough = x.enough(0, r);
            x.wish(0, r, enough);
            check.due("CHOICE with " + enough, x.goer(0, 3), r);
            x.wish(0, r, enough - 1);
            check.due("another CHOICE with one less", x.goer(0, 3) != r, true);
            x.wish(0, r, was);
        }
        check.due("c is not seen", x.enough(0, 2), -2);
    }

    static void p26NoSuchGoer() {
        BlinkerCross x = Check.of(PAIR);
        for (int goer : new int[] {-1, 2, 5, MIN, MAX}) {
            check.due("open(" + goer + ")", x.open(goer), -1);
        }
    }

    static void p26From1ToAllRoads() {
        String wanted = "abcdef";
        for (int r = 0; r < 6; r++) {
            BlinkerCross x = Check.of(SIX + "goer p a 1;goer q f 6;wants p " + wanted.charAt(r) + " 1;wants q "
                    + wanted.charAt(r) + " 99;");
            check.due("from a to " + wanted.charAt(r), x.open(0), r + 1);
            check.due("from f to " + wanted.charAt(r), x.open(1), r == 5 ? 1 : r + 2);
        }
        check.due("one road", Check.of("road a 1;goer p a 6;wants p a 9;").open(0), 1);
    }

    static void p26TheLeast() {
        check.due("without WANTS", Check.of(SIX + "goer p c 6;").open(0), 1);
        BlinkerCross x = Check.of(SIX + "goer p a 6;wants p c 50;wants p f 50;wants p b 49;");
        check.due("of alike ones the nearest", x.open(0), 3);
        x.wish(0, 5, 51);
        check.due("one more is more", x.open(0), 6);
        x.wish(0, 0, 51);
        check.due("as much is faced", x.open(0), 1);
    }

    // ---- promise 27: crowded, 28: same

    static void p27NoRoads() {
        check.due("which", new BlinkerCross().crowded(0), -2);
        check.due("how many", new BlinkerCross().crowded(1), -2);
    }

    static void p27NoneForOthers() {
        BlinkerCross x = Check.of(PAIR);
        for (int what : new int[] {-1, -2, 2, 3, MIN, MAX}) {
            check.due("crowded(" + what + ")", x.crowded(what), -1);
        }
    }

    static void p27NoGoers() {
        BlinkerCross x = Check.of(SIX);
        check.due("which", x.crowded(0), 0);
        check.due("how many", x.crowded(1), 0);
    }

    static void p27OfAlikeOnesTheFirst() {
        BlinkerCross x = Check.of(SIX + "goer p f 1;goer q d 1;");
        check.due("which", x.crowded(0), 3);
        check.due("how many", x.crowded(1), 1);
        x.turn(1, 5);
        check.due("which", x.crowded(0), 5);
        check.due("how many", x.crowded(1), 2);
        BlinkerCross y = Check.of(THREE + FIVE);
        y.turn(0, 2);
        y.turn(1, 2);
        y.turn(4, 1);
        check.due("two on a, one on b, two on c", y.crowded(0), 0);
        check.due("how many", y.crowded(1), 2);
        y.turn(4, 2);
        check.due("which", y.crowded(0), 2);
        check.due("how many", y.crowded(1), 3);
        check.due("all of them", Check.of(THREE + FIVE).crowded(1), 5);
    }

    static void p27EachRoad() {
        for (int r = 0; r < 6; r++) {
            BlinkerCross x = Check.of(SIX + FIVE);
            for (int g = 0; g < 3; g++) {
                x.turn(g, r);
            }
            check.due("which", x.crowded(0), r);
            check.due("how many", x.crowded(1), r == 0 ? 5 : 3);
        }
    }

    static void p28NoSuchGoer() {
        BlinkerCross x = Check.of(PAIR);
        for (int goer : new int[] {-1, 2, 5, MIN, MAX}) {
            check.due("same(" + goer + ")", x.same(goer), -1);
        }
    }

    static void p28OthersNotThemselves() {
        BlinkerCross x = Check.of(THREE + FIVE);
        for (int g = 0; g < 5; g++) {
            check.due("same(" + g + ") of all", x.same(g), 31 & ~(1 << g));
        }
        x.turn(2, 1);
        check.due("alone", x.same(2), 0);
        check.due("same(0)", x.same(0), 26);
        x.turn(4, 1);
        check.due("same(2)", x.same(2), 16);
        check.due("same(4)", x.same(4), 4);
        check.due("one GOER", Check.of(TWO + "goer p a 1;").same(0), 0);
    }

    // ---- promise 29: then, 30: gainedIn

    static void p29NoSuchOnes() {
        BlinkerCross x = Check.of(PAIR);
        int[][] no = {{-1, 1, 0}, {2, 1, 0}, {MIN, 1, 0}, {MAX, 1, 0}, {0, -1, 0}, {0, 61, 0}, {0, MIN, 0}, {0, MAX, 0},
            {0, 1, -1}, {0, 1, 3}, {0, 1, MIN}, {0, 1, MAX}, {0, 0, 3}, {2, 0, 2}};
        for (int[] a : no) {
            check.due("then(" + a[0] + ", " + a[1] + ", " + a[2] + ")", x.then(a[0], a[1], a[2]), -1);
        }
    }

    private static final String AHEAD = SIX + "goer p a 4;goer q f 2;goer r c 6;wants p c 9;wants q a 50;wants r b 4;"
            + "wants r f 3;seed 77;keeps=day/3-stood/9;turns=50+which*20;stands=seen+here;crowds=here*20+stood;";

    static void p29InNoDays() {
        BlinkerCross x = Check.of(AHEAD);
        x.days(5);
        for (int g = 0; g < 3; g++) {
            check.due("stood of " + g, x.then(g, 0, 0), x.goer(g, 7));
            check.due("FACES of " + g, x.then(g, 0, 1), x.goer(g, 0));
            check.due("SIGHT of " + g, x.then(g, 0, 2), x.goer(g, 1));
        }
    }

    static void p29AsDaysThatGoBy() {
        for (int n : new int[] {1, 2, 59, 60}) {
            BlinkerCross x = Check.of(AHEAD);
            x.days(7);
            int[][] then = new int[3][3];
            for (int i = 0; i < 9; i++) {
                then[i / 3][i % 3] = x.then(i / 3, n, i % 3);
            }
            x.days(n);
            for (int g = 0; g < 3; g++) {
                check.due("stood of " + g + " in " + n, then[g][0], x.goer(g, 7));
                check.due("FACES of " + g + " in " + n, then[g][1], x.goer(g, 0));
                check.due("SIGHT of " + g + " in " + n, then[g][2], x.goer(g, 1));
            }
        }
    }

    static void p29FromTheDayThatItIs() {
        BlinkerCross x = Check.of("road a 1;road b 1;goer p a 2;stands=day+1;turns=day*50;keeps=day-1;");
        x.days(3);
        // 1 + 2 + 3 so far, then 4, then 5; TURNS is 100 from day 2 on; SIGHT 1 from day 3 on
        check.due("then(0, 0, 0)", x.then(0, 0, 0), 6);
        check.due("then(0, 1, 0)", x.then(0, 1, 0), 10);
        check.due("then(0, 2, 0)", x.then(0, 2, 0), 15);
        check.due("then(0, 2, 2)", x.then(0, 2, 2), 1);
        check.due("then(0, 1, 1)", x.then(0, 1, 1), 1 - x.goer(0, 0));
        check.due("then(0, 2, 1)", x.then(0, 2, 1), x.goer(0, 0));
    }

    /** Of all promises of what would be, under their numbers. */
    static void p16To31NothingHappens() {
        for (int promise = 16; promise <= 31; promise++) {
            check.about("promise " + promise + ", nothing happens");
            BlinkerCross x = Check.of(AHEAD);
            x.days(2);
            x.tell(4, 9, true);
            x.hold(1);
            int[] before = Check.state(x);
            ask(x, promise);
            check.same("behind it", Check.state(x), before);
            check.due("one thing can be undone", x.undo(), true);
            check.due("the day", x.count(2), 0);
            check.due("what is held", x.restore(1), true);
            check.due("the day", x.count(2), 2);
        }
    }

    static void p30NoSuchOnes() {
        BlinkerCross x = Check.of(PAIR);
        int[][] no = {{-1, 1}, {2, 1}, {5, 1}, {MIN, 1}, {MAX, 1}, {0, -1}, {0, 61}, {0, MIN}, {0, MAX}};
        for (int[] a : no) {
            check.due("gainedIn(" + a[0] + ", " + a[1] + ")", x.gainedIn(a[0], a[1]), -100000);
        }
    }

    static void p30From0To60() {
        BlinkerCross x = Check.of(PAIR);
        x.days(2);
        // both on b: 7 less 2 a day for the first, 2 less 2 for the second
        int[] p = {10, 15, 305, 310};
        int[] days = {0, 1, 59, 60};
        for (int i = 0; i < 4; i++) {
            check.due("gainedIn(0, " + days[i] + ")", x.gainedIn(0, days[i]), p[i]);
            check.due("gainedIn(1, " + days[i] + ")", x.gainedIn(1, days[i]), 0);
        }
    }

    static void p30MayBeBelow0() {
        BlinkerCross x = Check.of("road a 1;goer p a 1;crowds=99;");
        check.due("gainedIn(0, 0)", x.gainedIn(0, 0), 0);
        check.due("gainedIn(0, 1)", x.gainedIn(0, 1), -99);
        check.due("gainedIn(0, 60)", x.gainedIn(0, 60), -5940);
    }

    static void p30AsDaysThatGoBy() {
        for (int n : new int[] {1, 13, 60}) {
            BlinkerCross x = Check.of(AHEAD);
            x.days(7);
            int[] then = {x.gainedIn(0, n), x.gainedIn(1, n), x.gainedIn(2, n)};
            x.days(n);
            for (int g = 0; g < 3; g++) {
                check.due("gained by " + g + " in " + n, then[g], x.gained(g));
            }
        }
    }

    // ---- promise 31: year

    static void p31NoSuchOnes() {
        BlinkerCross x = Check.of(PAIR);
        int[][] no = {{-1, 0, 1, 1}, {2, 0, 1, 1}, {0, -1, 1, 1}, {0, 2, 1, 1}, {0, 0, -1, 1}, {0, 0, 61, 1}, {0, 0, 1, 0},
            {0, 0, 1, 21}, {0, 0, 1, -1}, {MIN, 0, 1, 1}, {MAX, 0, 1, 1}, {0, MIN, 1, 1}, {0, MAX, 1, 1}, {0, 0, MIN, 1},
            {0, 0, MAX, 1}, {0, 0, 1, MIN}, {0, 0, 1, MAX}, {5, 0, 0, 1}, {0, 6, 0, 1}};
        for (int[] a : no) {
            check.due("year(" + a[0] + ", " + a[1] + ", " + a[2] + ", " + a[3] + ")", x.year(a[0], a[1], a[2], a[3]), -1);
        }
    }

    /** LOTs of number 0 on day 0 with the seeds 0 to 19, worked out outside. */
    private static final int[] LOTS = {69, 56, 35, 83, 16, 5, 17, 67, 55, 29, 66, 66, 25, 35, 88, 34, 57, 12, 89, 9};

    static void p31From1To20Seeds() {
        for (int turns : new int[] {30, 56, 57}) {
            BlinkerCross x = Check.of(TWO + "goer p a 1;turns=" + turns + ";");
            int times = 0;
            for (int s = 1; s <= 20; s++) {
                times += LOTS[s - 1] < turns ? 1 : 0;
                check.due("year(0, 1, 1, " + s + ")", x.year(0, 1, 1, s), times);
                check.due("year(0, 0, 1, " + s + ")", x.year(0, 0, 1, s), s - times);
            }
        }
    }

    static void p31FromTheTextsSeedOn() {
        for (int seed = 0; seed < 20; seed++) {
            BlinkerCross x = Check.of(TWO + "goer p a 1;turns=30;seed " + seed + ";");
            int times = 0;
            for (int s = 1; seed + s <= 20; s++) {
                times += LOTS[seed + s - 1] < 30 ? 1 : 0;
                check.due("seed " + seed + ", year(0, 1, 1, " + s + ")", x.year(0, 1, 1, s), times);
            }
        }
    }

    /** LOTs with the seeds 9999 and those behind it: 23, 32, 95, 71, 0, 13. */
    static void p31SeedsGoOnBehind9999() {
        BlinkerCross x = Check.of(TWO + "goer p a 1;turns=32;seed 9999;");
        int[] due = {1, 1, 1, 1, 2, 3};
        for (int s = 1; s <= 6; s++) {
            check.due("year(0, 1, 1, " + s + ")", x.year(0, 1, 1, s), due[s - 1]);
        }
    }

    static void p31InNoDaysTheChoiceOfNow() {
        BlinkerCross x = Check.of(PAIR + "turns=100;keeps=1;");
        check.due("year(0, 1, 0, 20)", x.year(0, 1, 0, 20), 20);
        check.due("year(0, 0, 0, 20)", x.year(0, 0, 0, 20), 0);
        // on the next day they face b and a, and see no other one
        check.due("year(1, 0, 1, 7)", x.year(1, 0, 1, 7), 7);
        check.due("year(1, 0, 60, 1)", x.year(1, 0, 60, 1), 0);
        check.due("year(1, 1, 60, 1)", x.year(1, 1, 60, 1), 1);
        check.due("year(1, 0, 59, 20)", x.year(1, 0, 59, 20), 20);
    }

    static void p31TheSeedOfTheFirstIsThatOfTheDays() {
        BlinkerCross x = Check.of(SIX + "goer p a 1;goer q c 1;turns=50;seed 4321;");
        x.days(9);
        int[] first = new int[6];
        for (int r = 0; r < 6; r++) {
            first[r] = x.year(1, r, 60, 1);
        }
        x.days(60);
        for (int r = 0; r < 6; r++) {
            check.due("year(1, " + r + ", 60, 1)", first[r], x.goer(1, 3) == r ? 1 : 0);
        }
    }

    static void p31EachSeedOnce() {
        BlinkerCross x = Check.of(SIX + "goer p a 3;wants p d 4;wants p f 5;turns=50;seed 9;");
        int sum = 0;
        for (int r = 0; r < 6; r++) {
            sum += x.year(0, r, 60, 20);
        }
        check.due("of all ROADS, added", sum, 20);
    }
}
