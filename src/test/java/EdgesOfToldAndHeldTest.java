/** Boundary cases of promises 32 to 38: a goer unknown, what is held, what is counted. */
public final class EdgesOfToldAndHeldTest {
    private static final Check check = new Check();

    private static final int MIN = Integer.MIN_VALUE;
    private static final int MAX = Integer.MAX_VALUE;
    private static final String TWO = "road a 1;road b 1;";
    private static final String SIX = "road a 1;road b 1;road c 1;road d 1;road e 1;road f 1;";
    private static final String FIVE = "goer p a 1;goer q a 1;goer r a 1;goer s a 1;goer t a 1;";
    private static final String PAIR = "road a 4;road b 9;goer p a 2;goer q b 1;wants p b 7;wants q a 3;wants q b 2;";
    /** CHOICE 1 0 2, STANDS 40 10 20, MISSED 0 5 0, 2 1 3 seen. */
    private static final String THREE = "road a 1;road b 1;road c 1;goer p a 2;goer q a 1;goer r b 3;wants p b 9;"
            + "wants q a 1;wants q c 6;wants r c 7;stands=if which<1 then 40 else which*10;";

    public static void main(String[] args) throws ReflectiveOperationException {
        Edges.run(EdgesOfToldAndHeldTest.class, check, 32, 38);
    }

    // ---- promise 32: tell

    static void p32NoSuchMark() {
        BlinkerCross x = Check.of(PAIR);
        for (int mark : new int[] {-1, -2, 5, 6, MIN, MAX}) {
            check.due("tell(" + mark + ", 1, true)", x.tell(mark, 1, true), -1);
            check.due("tell(" + mark + ", 1, false)", x.tell(mark, 1, false), -1);
        }
        check.due("nothing happens", x.count(10), 0);
        check.due("who(0, 1)", x.who(0, 1), 3);
    }

    static void p32MarksFrom0To4() {
        BlinkerCross x = new BlinkerCross();
        for (int mark = 0; mark <= 4; mark++) {
            check.due("tell(" + mark + ", 0, true)", x.tell(mark, 0, true), mark);
        }
    }

    static void p32NoSuchNumber() {
        BlinkerCross x = Check.of(PAIR);
        for (int v : new int[] {-1, -2, 100, 101, MIN, MAX}) {
            check.due("tell(0, " + v + ", true)", x.tell(0, v, true), -1);
            check.due("tell(4, " + v + ", false)", x.tell(4, v, false), -1);
        }
        check.due("nothing happens", x.count(10), 0);
    }

    static void p32NumbersFrom0To99() {
        BlinkerCross x = new BlinkerCross();
        check.due("tell(1, 0, true)", x.tell(1, 0, true), 0);
        check.due("tell(1, 99, true)", x.tell(1, 99, true), 1);
        check.due("tell(1, 99, false)", x.tell(1, 99, false), 2);
        check.due("tell(1, 0, false)", x.tell(1, 0, false), 3);
    }

    static void p32TwentyAtMostNumberedFrom0() {
        BlinkerCross x = Check.of(PAIR);
        for (int i = 0; i < 20; i++) {
            check.due("count(10)", x.count(10), i);
            check.due("tell number " + i, x.tell(0, 0, true), i);
        }
        check.due("a 21st", x.tell(0, 0, true), -1);
        check.due("a 21st that would leave none", x.tell(0, 0, false), -1);
        check.due("nothing happens", x.count(10), 20);
        check.due("who(20, 1)", x.who(20, 1), 3);
        check.due("who(21, 1)", x.who(21, 1), -1);
    }

    static void p32WithoutGoers() {
        BlinkerCross x = new BlinkerCross();
        check.due("tell(4, 99, true)", x.tell(4, 99, true), 0);
        check.due("who(1, 0)", x.who(1, 0), 0);
    }

    // ---- promise 33: forget

    static void p33NoneWereTold() {
        BlinkerCross x = new BlinkerCross();
        check.due("forget()", x.forget(), 0);
        x.tell(9, 0, true);
        check.due("forget()", x.forget(), 0);
    }

    static void p33HowManyThereWere() {
        for (int n : new int[] {1, 2, 19, 20, 21}) {
            BlinkerCross x = Check.of(PAIR);
            for (int i = 0; i < n; i++) {
                x.tell(0, 99, true);
            }
            check.due("forget() of " + n, x.forget(), Math.min(n, 20));
            check.due("count(10)", x.count(10), 0);
            check.due("forget() again", x.forget(), 0);
            check.due("who(0, 1)", x.who(0, 1), 3);
            check.due("who(1, 1)", x.who(1, 1), -1);
            check.due("numbered from 0 on again", x.tell(0, 0, true), 0);
            check.due("nothing of what was forgotten", x.who(1, 1), 3);
        }
    }

    // ---- promise 34: who

    static void p34NoSuchOnes() {
        BlinkerCross x = Check.of(PAIR);
        x.tell(0, 0, true);
        int[][] no = {{-1, 0}, {2, 0}, {2, 1}, {20, 0}, {21, 0}, {MIN, 0}, {MAX, 0}, {0, -1}, {0, 2}, {1, 2}, {0, MIN}, {0, MAX}};
        for (int[] a : no) {
            check.due("who(" + a[0] + ", " + a[1] + ")", x.who(a[0], a[1]), -1);
        }
    }

    static void p34NothingKnownAll() {
        check.due("how many of five", Check.of(TWO + FIVE).who(0, 0), 5);
        check.due("which of five", Check.of(TWO + FIVE).who(0, 1), 31);
        check.due("no GOERS: how many", new BlinkerCross().who(0, 0), 0);
        check.due("no GOERS: which", new BlinkerCross().who(0, 1), 0);
    }

    static void p34KnownByKTheFirstK() {
        BlinkerCross x = Check.of(THREE);
        x.tell(1, 11, true);
        x.tell(0, 2, false);
        x.tell(3, 3, true);
        int[] which = {7, 5, 1, 0};
        int[] many = {3, 2, 1, 0};
        for (int k = 0; k <= 3; k++) {
            check.due("who(" + k + ", 0)", x.who(k, 0), many[k]);
            check.due("who(" + k + ", 1)", x.who(k, 1), which[k]);
        }
        check.due("who(4, 0)", x.who(4, 0), -1);
    }

    /** Of each mark: by as much, it is so; by one more, it is not. */
    static void p34SoMuchOrMore() {
        // stood 40 10 20 behind a day
        int[][] marks = {{1, 0, 2}, {40, 10, 20}, {0, 5, 0}, {2, 1, 3}, {40, 10, 20}};
        BlinkerCross x = Check.of(THREE);
        x.days(1);
        for (int mark = 0; mark < 5; mark++) {
            for (int g = 0; g < 3; g++) {
                for (int more = 0; more <= 1; more++) {
                    int v = marks[mark][g] + more;
                    int bits = 0;
                    for (int h = 0; h < 3; h++) {
                        bits |= marks[mark][h] >= v ? 1 << h : 0;
                    }
                    x.tell(mark, v, true);
                    check.due("mark " + mark + " is " + v + " or more", x.who(1, 1), bits);
                    check.due("mark " + mark + " is " + v + " or more: how many", x.who(1, 0), Integer.bitCount(bits));
                    x.forget();
                    x.tell(mark, v, false);
                    check.due("mark " + mark + " is not " + v + " or more", x.who(1, 1), 7 & ~bits);
                    x.forget();
                }
            }
        }
    }

    static void p34From0AllAndFrom99Few() {
        BlinkerCross x = Check.of("road a 1;goer p a 1;goer q a 1;stands=98+which;");
        for (int mark = 0; mark < 5; mark++) {
            x.tell(mark, 0, true);
            check.due("0 or more of mark " + mark, x.who(1, 1), 3);
            x.forget();
            x.tell(mark, 0, false);
            check.due("not 0 or more of mark " + mark, x.who(1, 1), 0);
            x.forget();
            x.tell(mark, 99, true);
            check.due("99 or more of mark " + mark, x.who(1, 1), mark == 1 ? 2 : 0);
            x.forget();
        }
        x.days(2);
        x.tell(4, 99, true);
        check.due("stood more than 99", x.who(1, 1), 3);
    }

    static void p34AsItIsNow() {
        BlinkerCross x = Check.of(PAIR);
        x.tell(0, 1, true);
        x.tell(4, 3, true);
        check.due("CHOICES of now", x.who(1, 1), 3);
        check.due("nobody has stood", x.who(2, 1), 0);
        x.flap(0, 1);
        check.due("CHOICES then", x.who(1, 1), 2);
        x.days(3);
        check.due("stood 3 each", x.who(2, 1), 2);
        x.undo();
        x.undo();
        check.due("CHOICES of ahead", x.who(1, 1), 3);
    }

    // ---- promise 35: look

    static void p35NoSuchOnes() {
        BlinkerCross x = Check.of(PAIR);
        x.tell(0, 0, true);
        int[][] no = {{-1, 1}, {2, 1}, {20, 1}, {MIN, 1}, {MAX, 1}, {0, -1}, {0, 100}, {1, MIN}, {1, MAX}, {2, 100}};
        for (int[] a : no) {
            check.due("look(" + a[0] + ", " + a[1] + ")", x.look(a[0], a[1]), -1);
        }
    }

    static void p35NoneIsLeft() {
        BlinkerCross x = Check.of(PAIR);
        x.tell(0, 0, false);
        check.due("look(1, 0)", x.look(1, 0), -2);
        check.due("look(1, 99)", x.look(1, 99), -2);
        check.due("look(0, 0): all are", x.look(0, 0), 0);
        check.due("no GOERS", new BlinkerCross().look(0, 0), -2);
        check.due("no GOERS", Check.of(SIX).look(0, 99), -2);
        check.due("no GOERS, no such number", new BlinkerCross().look(0, 100), -1);
    }

    static void p35OfAlikeOnesTheFirst() {
        BlinkerCross x = Check.of(THREE);
        check.due("by 0 all are so", x.look(0, 0), 0);
        check.due("by 99 none is so", x.look(0, 99), 0);
        // CHOICE 1 0 2: two and one; seen 2 1 3, by 2 likewise
        check.due("by 1: CHOICE ahead of MISSED", x.look(0, 1), 0);
        // CHOICE: 2 or more r alone; MISSED: q alone; seen: p and r
        check.due("by 2", x.look(0, 2), 0);
        // 3: CHOICE none, STANDS all, MISSED q alone, seen r alone
        check.due("by 3", x.look(0, 3), 2);
        // 6: nothing but all or none
        check.due("by 6", x.look(0, 6), 0);
        // 11: STANDS p and r
        check.due("by 11", x.look(0, 11), 1);
    }

    static void p35FewestLeftAtWorst() {
        // CHOICE 0 0 0 0 1, MISSED 0 0 0 9 0 of five: by 1 the worst is four and four; seen 1 2 2 2 2
        BlinkerCross x = Check.of(SIX + "goer p a 1;goer q a 2;goer r a 2;goer s a 2;goer t b 2;wants s f 9;"
                + "stands=if which<2 then 5 else 3;");
        check.due("by 1: CHOICE is first of alike ones", x.look(0, 1), 0);
        // by 4: STANDS two and three; CHOICE none, MISSED one and four
        check.due("by 4", x.look(0, 4), 1);
        x.tell(1, 4, false);
        // r, s, t are left: STANDS are alike, MISSED one and two
        check.due("by 4 of those left", x.look(1, 4), 2);
        x.tell(0, 1, true);
        check.due("one is left: all alike", x.look(2, 4), 0);
    }

    static void p35AllFiveButOneAreLeftAtWorst() {
        // CHOICE 0 of all, STANDS 1 of all; MISSED 9 of p alone, so that four are left at worst, else five
        BlinkerCross x = Check.of(SIX + FIVE + "wants p f 9;");
        check.due("by 9: MISSED", x.look(0, 9), 2);
        // all are alike, but that s alone SEES two
        BlinkerCross y = Check.of(SIX + "goer p a 1;goer q a 1;goer r a 1;goer s a 2;goer t a 1;stands=1;");
        check.due("by 2: how many they SEE", y.look(0, 2), 3);
        BlinkerCross z = Check.of("road a 1;" + FIVE + "stands=which/4*7;");
        check.due("by 7: STANDS", z.look(0, 7), 1);
        z.days(1);
        check.due("by 7: STANDS ahead of how long they stood", z.look(0, 7), 1);
    }

    static void p35HowLongTheyStoodIsTheLastMark() {
        BlinkerCross x = Check.of("road a 1;goer p a 1;goer q a 1;stands=if day<1 then which else 5;");
        x.days(1);
        check.due("by 1: stood 0 and 1", x.look(0, 1), 4);
        check.due("by 2: stood 0 and 1", x.look(0, 2), 0);
    }

    // ---- promise 36: hold

    static void p36NoSuchSlot() {
        BlinkerCross x = Check.of(PAIR);
        for (int slot : new int[] {-1, -2, 3, 4, MIN, MAX}) {
            check.due("hold(" + slot + ")", x.hold(slot), false);
        }
        check.due("count(11)", x.count(11), 0);
    }

    static void p36SlotsFrom0To2() {
        BlinkerCross x = Check.of(PAIR);
        for (int slot = 0; slot < 3; slot++) {
            x.wish(0, 0, 10 + slot);
            check.due("hold(" + slot + ")", x.hold(slot), true);
            check.due("count(11)", x.count(11), slot + 1);
        }
        for (int slot = 2; slot >= 0; slot--) {
            check.due("restore(" + slot + ")", x.restore(slot), true);
            check.due("want(0, 0)", x.want(0, 0), 10 + slot);
        }
    }

    static void p36HeldAnewInPlaceOfWhatWasHeld() {
        BlinkerCross x = Check.of(PAIR);
        x.hold(1);
        x.wish(0, 0, 5);
        check.due("hold(1)", x.hold(1), true);
        check.due("count(11)", x.count(11), 1);
        x.wish(0, 0, 6);
        x.restore(1);
        check.due("want(0, 0)", x.want(0, 0), 5);
    }

    static void p36NothingGoesOnDifferently() {
        BlinkerCross x = Check.of(PAIR);
        x.days(2);
        int[] before = Check.state(x);
        x.hold(0);
        before[11] = 1;
        check.same("behind hold(0)", Check.state(x), before);
        check.due("undo()", x.undo(), true);
        check.due("the day", x.count(2), 0);
    }

    static void p36WithoutAText() {
        BlinkerCross x = new BlinkerCross();
        x.days(7);
        check.due("hold(2)", x.hold(2), true);
        x.days(1);
        check.due("restore(2)", x.restore(2), true);
        check.due("the day", x.count(2), 7);
    }

    static void p36NotWhatIsToldNorTheTape() {
        BlinkerCross x = Check.of(PAIR);
        x.tell(0, 0, true);
        x.feed(1, 2, 3, 4, 5);
        x.hold(0);
        x.tell(0, 1, true);
        x.tell(0, 2, true);
        x.feed(1, 2, 3, 4, 5);
        x.restore(0);
        check.due("TOLD ones", x.count(10), 3);
        check.due("bytes", x.count(8), 40);
        x.forget();
        x.back(40);
        x.restore(0);
        check.due("TOLD ones", x.count(10), 0);
        check.due("bytes", x.count(8), 0);
    }

    // ---- promise 37: restore

    static void p37NoSuchSlot() {
        BlinkerCross x = Check.of(PAIR);
        for (int slot = 0; slot < 3; slot++) {
            x.hold(slot);
        }
        x.days(1);
        int[] before = Check.state(x);
        for (int slot : new int[] {-1, -2, 3, 4, MIN, MAX}) {
            check.due("restore(" + slot + ")", x.restore(slot), false);
        }
        check.same("nothing happens", Check.state(x), before);
        check.due("undo()", x.undo(), true);
    }

    static void p37NothingIsHeld() {
        BlinkerCross x = Check.of(PAIR);
        x.hold(1);
        x.days(1);
        int[] before = Check.state(x);
        check.due("restore(0)", x.restore(0), false);
        check.due("restore(2)", x.restore(2), false);
        check.same("nothing happens", Check.state(x), before);
        check.due("undo()", x.undo(), true);
    }

    static void p37AllThatGoesOn() {
        BlinkerCross x = Check.of(PAIR + "keeps=1;turns=60;seed 5;crowds=stood;");
        x.wish(1, 1, 44);
        x.flap(0, 5);
        x.turn(1, 0);
        x.days(3);
        int[] held = Check.state(x);
        x.hold(1);
        x.wish(1, 1, 2);
        x.wish(0, 0, 99);
        x.flap(0, 6);
        x.turn(1, 1 - x.goer(1, 0));
        x.days(9);
        check.due("restore(1)", x.restore(1), true);
        held[9] = 0;
        held[11] = 1;
        check.same("behind restore(1)", Check.state(x), held);
    }

    static void p37NothingCanBeUndoneThen() {
        BlinkerCross x = Check.of(PAIR);
        x.wish(0, 0, 1);
        x.hold(0);
        x.wish(0, 0, 2);
        x.restore(0);
        check.due("count(9)", x.count(9), 0);
        check.due("undo()", x.undo(), false);
        check.due("want(0, 0)", x.want(0, 0), 1);
        x.wish(0, 0, 3);
        check.due("what is done since can be", x.undo(), true);
        check.due("want(0, 0)", x.want(0, 0), 1);
        check.due("and no more than that", x.undo(), false);
    }

    static void p37ThatStaysThere() {
        BlinkerCross x = Check.of(PAIR);
        x.wish(0, 0, 1);
        x.hold(0);
        for (int i = 2; i < 6; i++) {
            x.wish(0, 0, i);
            x.days(i);
            check.due("restore(0)", x.restore(0), true);
            check.due("want(0, 0)", x.want(0, 0), 1);
            check.due("the day", x.count(2), 0);
            check.due("count(11)", x.count(11), 1);
        }
    }

    static void p37WhatIsDoneSinceIsNotHeld() {
        BlinkerCross x = Check.of(PAIR);
        x.hold(0);
        x.restore(0);
        x.wish(0, 0, 50);
        x.flap(1, 6);
        x.restore(0);
        check.due("want(0, 0)", x.want(0, 0), 0);
        check.due("SIGHT of 1", x.goer(1, 1), 1);
        check.due("CHOICE of 1", x.goer(1, 3), 1);
    }

    static void p37AnUndoLeavesTheSlots() {
        BlinkerCross x = Check.of(PAIR);
        x.days(5);
        x.hold(0);
        x.undo();
        check.due("count(11)", x.count(11), 1);
        check.due("restore(0)", x.restore(0), true);
        check.due("the day", x.count(2), 5);
    }

    // ---- promise 38: count

    static void p38NoneForOthers() {
        BlinkerCross x = Check.of(PAIR);
        for (int what : new int[] {-1, -2, 16, 17, 100, MIN, MAX}) {
            check.due("count(" + what + ")", x.count(what), -100000);
            check.due("count(" + what + ") of a new object", new BlinkerCross().count(what), -100000);
        }
    }

    static void p38RoadsAndGoers() {
        BlinkerCross x = Check.of(SIX + FIVE);
        check.due("count(0)", x.count(0), 6);
        check.due("count(1)", x.count(1), 5);
        BlinkerCross y = Check.of(SIX);
        check.due("count(0)", y.count(0), 6);
        check.due("count(1)", y.count(1), 0);
    }

    static void p38TheDay() {
        BlinkerCross x = Check.of(PAIR);
        check.due("count(2)", x.count(2), 0);
        x.days(60);
        x.days(60);
        check.due("count(2)", x.count(2), 120);
    }

    static void p38StandsMissedAndGainNow() {
        BlinkerCross x = Check.of(PAIR);
        // p chooses b, 7; q chooses b, 2, and misses 3 - 2; both by two
        check.due("STANDS", x.count(3), 2 + 1);
        check.due("MISSED", x.count(4), 0 + 1);
        check.due("GAIN", x.count(5), 5 + 0);
        BlinkerCross y = Check.of("road a 1;" + FIVE + "stands=99;crowds=99;");
        check.due("STANDS", y.count(3), 495);
        check.due("MISSED", y.count(4), 0);
        check.due("GAIN below 0", y.count(5), -495);
        BlinkerCross z = Check.of(TWO + FIVE + "wants p b 99;wants q b 99;wants r b 99;wants s b 99;wants t b 99;stands=0;");
        check.due("STANDS", z.count(3), 0);
        check.due("MISSED", z.count(4), 495);
    }

    static void p38StandsAndCrowdsHeldTo0To99() {
        BlinkerCross x = Check.of("road a 1;goer p a 1;goer q a 1;stands=500-which*1000;crowds=500-which*1000;");
        check.due("STANDS 99 and 0", x.count(3), 99);
        check.due("GAIN -99 and 0", x.count(5), -99);
    }

    static void p38ChosenAndSeenRoads() {
        BlinkerCross x = Check.of(SIX + "goer p f 2;goer q c 1;wants p a 4;");
        check.due("chosen: a, c", x.count(6), 1 + 4);
        check.due("seen: f, a, c", x.count(7), 32 + 1 + 4);
        BlinkerCross y = Check.of(SIX + "goer p f 6;");
        check.due("chosen: f", y.count(6), 32);
        check.due("seen: all", y.count(7), 63);
        check.due("chosen without GOERS", Check.of(SIX).count(6), 0);
        check.due("seen without GOERS", Check.of(SIX).count(7), 0);
    }

    static void p38Bytes() {
        BlinkerCross x = Check.of(PAIR);
        check.due("count(8)", x.count(8), 0);
        for (int i = 1; i <= 100; i++) {
            x.feed(0, 0, 0, 0, 0);
        }
        check.due("count(8)", x.count(8), 2000);
        x.feed(0, 0, 0, 0, 0);
        check.due("count(8)", x.count(8), 2000);
        x.back(1999);
        check.due("count(8)", x.count(8), 1);
    }

    static void p38ThingsThatCanBeUndone() {
        BlinkerCross x = Check.of(PAIR);
        for (int i = 1; i <= 42; i++) {
            x.wish(0, 0, i);
            check.due("count(9)", x.count(9), Math.min(i, 40));
        }
        x.undo();
        check.due("count(9)", x.count(9), 39);
    }

    static void p38ToldOnesAndSlots() {
        BlinkerCross x = Check.of(PAIR);
        x.hold(2);
        check.due("count(11): how many, not which", x.count(11), 1);
        x.hold(0);
        x.hold(0);
        check.due("count(11)", x.count(11), 2);
        x.hold(1);
        check.due("count(11)", x.count(11), 3);
        for (int i = 1; i <= 21; i++) {
            x.tell(2, 5, false);
            check.due("count(10)", x.count(10), Math.min(i, 20));
        }
    }

    static void p38StoodAndGainedSoFar() {
        BlinkerCross x = Check.of(PAIR);
        check.due("count(12)", x.count(12), 0);
        check.due("count(13)", x.count(13), 0);
        x.days(10);
        check.due("count(12)", x.count(12), 30);
        check.due("count(13)", x.count(13), 50);
        BlinkerCross y = Check.of("road a 1;" + FIVE + "stands=99;crowds=99;");
        y.days(60);
        check.due("count(12)", y.count(12), 29700);
        check.due("count(13) below 0", y.count(13), -29700);
    }

    static void p38SightsNowAndAsSet() {
        BlinkerCross x = Check.of(TWO + "goer p a 6;goer q b 1;goer r a 3;keeps=1;");
        check.due("count(14)", x.count(14), 10);
        check.due("count(15)", x.count(15), 10);
        x.days(1);
        check.due("count(14)", x.count(14), 5 + 1 + 2);
        check.due("count(15)", x.count(15), 10);
        x.flap(2, 5);
        check.due("count(14)", x.count(14), 5 + 1 + 5);
        check.due("count(15)", x.count(15), 6 + 1 + 5);
        check.due("a new object", new BlinkerCross().count(14), 0);
        check.due("a new object", new BlinkerCross().count(15), 0);
    }
}
