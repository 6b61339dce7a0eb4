/** Boundary cases of promises 6 to 15: how it is, what is done by hand, DAYS that go by, what is undone. */
public final class EdgesOfStateTest {
    private static final Check check = new Check();

    private static final int MIN = Integer.MIN_VALUE;
    private static final int MAX = Integer.MAX_VALUE;
    private static final String SIX = "road a 1;road b 1;road c 1;road d 1;road e 1;road f 1;";
    private static final String THREE = "road a 1;road b 1;road c 1;";
    private static final String FIVE = "goer p a 1;goer q a 1;goer r a 1;goer s a 1;goer t a 1;";
    private static final String PAIR = "road a 4;road b 9;goer p a 2;goer q b 1;wants p b 7;wants q a 3;wants q b 2;";

    public static void main(String[] args) throws ReflectiveOperationException {
        Edges.run(EdgesOfStateTest.class, check, 6, 15);
    }

    // ---- promise 6: road

    static void p06NoSuchRoad() {
        BlinkerCross x = Check.of(PAIR);
        for (int road : new int[] {-1, -2, 2, 3, 6, MIN, MAX}) {
            for (int what = 0; what <= 3; what++) {
                check.due("road(" + road + ", " + what + ")", x.road(road, what), -1);
            }
        }
        BlinkerCross y = Check.of(SIX);
        check.due("the last of six", y.road(5, 0), 1);
        check.due("a seventh", y.road(6, 0), -1);
    }

    static void p06NoneForOthers() {
        BlinkerCross x = Check.of(PAIR);
        for (int what : new int[] {-1, -2, 4, 5, 10, MIN, MAX}) {
            check.due("road(0, " + what + ")", x.road(0, what), -1);
            check.due("road(1, " + what + ")", x.road(1, what), -1);
        }
    }

    static void p06WideFrom1To9() {
        BlinkerCross x = Check.of("road a 1;road b 9;");
        check.due("road(0, 0)", x.road(0, 0), 1);
        check.due("road(1, 0)", x.road(1, 0), 9);
    }

    static void p06NobodyChoosesItOrAll() {
        BlinkerCross x = Check.of(THREE + FIVE);
        check.due("road(0, 1)", x.road(0, 1), 5);
        check.due("road(1, 1)", x.road(1, 1), 0);
        check.due("road(2, 1)", x.road(2, 1), 0);
        x.turn(4, 2);
        check.due("road(0, 1)", x.road(0, 1), 4);
        check.due("road(2, 1)", x.road(2, 1), 1);
    }

    static void p06NobodySeesItOrAll() {
        BlinkerCross x = Check.of(THREE + FIVE);
        check.due("road(0, 2)", x.road(0, 2), 31);
        check.due("road(1, 2)", x.road(1, 2), 0);
        x.flap(4, 2);
        check.due("road(1, 2)", x.road(1, 2), 16);
        check.due("road(2, 2)", x.road(2, 2), 0);
        x.flap(0, 6);
        check.due("road(1, 2)", x.road(1, 2), 17);
        check.due("road(2, 2)", x.road(2, 2), 1);
    }

    static void p06EachOfSixRoadsSeenByFive() {
        BlinkerCross x = Check.of(SIX + "goer p f 1;goer q e 2;goer r d 3;goer s c 4;goer t f 5;wants t d 8;wants q f 3;"
                + "wants q e 4;");
        int[] choose = {0, 0, 1, 2, 1, 1};
        int[] seers = {16, 16, 24, 28, 14, 31};
        int[] wants = {0, 0, 0, 8, 4, 3};
        for (int r = 0; r < 6; r++) {
            check.due("road(" + r + ", 1)", x.road(r, 1), choose[r]);
            check.due("road(" + r + ", 2)", x.road(r, 2), seers[r]);
            check.due("road(" + r + ", 3)", x.road(r, 3), wants[r]);
        }
    }

    static void p06SeenBehindTheLastRoad() {
        BlinkerCross x = Check.of(THREE + "goer p c 2;goer q c 1;goer r b 3;");
        check.due("road(0, 2)", x.road(0, 2), 5);
        check.due("road(1, 2)", x.road(1, 2), 4);
        check.due("road(2, 2)", x.road(2, 2), 7);
    }

    static void p06WantsOfAllGoersAdded() {
        BlinkerCross x = Check.of("road a 1;road b 1;" + FIVE + "wants p a 99;wants q a 99;wants r a 99;wants s a 99;"
                + "wants t a 99;wants t b 1;");
        check.due("road(0, 3)", x.road(0, 3), 495);
        check.due("road(1, 3): of who sees it not, too", x.road(1, 3), 1);
        x.days(60);
        check.due("road(0, 3) behind DAYS", x.road(0, 3), 495);
        check.due("without WANTS", Check.of(THREE + FIVE).road(0, 3), 0);
    }

    static void p06WithoutGoers() {
        BlinkerCross x = Check.of(SIX);
        for (int road = 0; road < 6; road++) {
            for (int what = 1; what <= 3; what++) {
                check.due("road(" + road + ", " + what + ")", x.road(road, what), 0);
            }
        }
    }

    // ---- promise 7: goer

    static void p07NoSuchGoer() {
        BlinkerCross x = Check.of(PAIR);
        for (int goer : new int[] {-1, -2, 2, 3, 5, MIN, MAX}) {
            for (int what = 0; what <= 10; what++) {
                check.due("goer(" + goer + ", " + what + ")", x.goer(goer, what), -1);
            }
        }
        BlinkerCross y = Check.of(THREE + FIVE);
        check.due("the last of five", y.goer(4, 1), 1);
        check.due("a sixth", y.goer(5, 1), -1);
    }

    static void p07NoneForOthers() {
        BlinkerCross x = Check.of(PAIR);
        for (int what : new int[] {-1, -2, 11, 12, 100, MIN, MAX}) {
            check.due("goer(0, " + what + ")", x.goer(0, what), -1);
            check.due("goer(1, " + what + ")", x.goer(1, what), -1);
        }
    }

    static void p07TheySeeAsManyAsTheirSight() {
        int[] fromA = {1, 3, 7, 15, 31, 63};
        int[] fromE = {16, 48, 49, 51, 55, 63};
        int[] fromF = {32, 33, 35, 39, 47, 63};
        for (int sight = 1; sight <= 6; sight++) {
            BlinkerCross x = Check.of(SIX + "goer p a " + sight + ";goer q e " + sight + ";goer r f " + sight + ";");
            int[] bits = {fromA[sight - 1], fromE[sight - 1], fromF[sight - 1]};
            for (int g = 0; g < 3; g++) {
                check.due("which of SIGHT " + sight, x.goer(g, 10), bits[g]);
                check.due("how many of SIGHT " + sight, x.goer(g, 6), sight);
            }
        }
    }

    static void p07AllAtMost() {
        String roads = "";
        for (int n = 1; n <= 6; n++) {
            roads += "road " + "abcdef".charAt(n - 1) + " 1;";
            BlinkerCross x = Check.of(roads + "goer p a 6;");
            check.due("how many of " + n, x.goer(0, 6), n);
            check.due("which of " + n, x.goer(0, 10), (1 << n) - 1);
            check.due("SIGHT all the same", x.goer(0, 1), 6);
            check.due("as told", x.goer(0, 2), 6);
            check.due("STANDS: seen", x.goer(0, 4), n);
        }
    }

    static void p07TheChoiceIsOfWhatTheySee() {
        BlinkerCross x = Check.of(THREE + "goer p a 1;wants p b 99;wants p c 98;");
        check.due("CHOICE with SIGHT 1", x.goer(0, 3), 0);
        x.flap(0, 2);
        check.due("CHOICE with SIGHT 2", x.goer(0, 3), 1);
        x.turn(0, 2);
        check.due("CHOICE behind the last", x.goer(0, 3), 2);
        x.flap(0, 3);
        check.due("CHOICE with SIGHT 3", x.goer(0, 3), 1);
    }

    static void p07OfAlikeOnesThatSeenFirst() {
        BlinkerCross x = Check.of(THREE + "goer p c 3;goer q b 3;goer r a 3;wants p a 50;wants p b 50;wants q a 50;"
                + "wants q c 50;wants r b 50;wants r c 50;");
        check.due("from c: c, a, b", x.goer(0, 3), 0);
        check.due("from b: b, c, a", x.goer(1, 3), 2);
        check.due("from a: a, b, c", x.goer(2, 3), 1);
        BlinkerCross y = Check.of(THREE + "goer p c 3;goer q b 2;");
        check.due("none wanted: the one faced", y.goer(0, 3), 2);
        check.due("none wanted: the one faced", y.goer(1, 3), 1);
        x.wish(0, 2, 50);
        check.due("the one faced is seen first", x.goer(0, 3), 2);
        x.wish(0, 1, 51);
        check.due("one more is more", x.goer(0, 3), 1);
    }

    static void p07MissedByAnyRoad() {
        BlinkerCross x = Check.of(THREE + "goer p a 1;wants p a 5;wants p c 99;");
        check.due("not seen", x.goer(0, 5), 94);
        x.wish(0, 2, 5);
        check.due("as much is not missed", x.goer(0, 5), 0);
        x.wish(0, 2, 4);
        check.due("the CHOICE is the greatest", x.goer(0, 5), 0);
        x.wish(0, 2, 6);
        check.due("one more is", x.goer(0, 5), 1);
        x.wish(0, 0, 0);
        x.wish(0, 2, 99);
        check.due("all of it", x.goer(0, 5), 99);
        check.due("without WANTS", Check.of(SIX + "goer p a 1;").goer(0, 5), 0);
    }

    static void p07SightNowAndAsToldOrSetSince() {
        BlinkerCross x = Check.of(SIX + "goer p a 4;keeps=1;");
        x.days(2);
        check.due("SIGHT now", x.goer(0, 1), 2);
        check.due("as told", x.goer(0, 2), 4);
        x.flap(0, 6);
        x.days(1);
        check.due("SIGHT now", x.goer(0, 1), 5);
        check.due("as set since", x.goer(0, 2), 6);
    }

    static void p07ByTheSightOfNow() {
        BlinkerCross x = Check.of(THREE + "goer o a 1;goer p a 3;wants p a 3;wants p b 4;wants p c 9;keeps=1;stands=next;");
        int[][] due = {{0, 3, 3, 2, 4, 0, 3, 0, 1, 0, 7}, {0, 2, 3, 1, 3, 5, 2, 4, 1, 0, 3}, {0, 1, 3, 0, 0, 6, 1, 7, 1, 0, 1}};
        for (int day = 0; day < 3; day++) {
            for (int what = 0; what <= 10; what++) {
                check.due("goer(1, " + what + ") on day " + day, x.goer(1, what), due[day][what]);
            }
            x.days(1);
        }
    }

    static void p07EachOfFiveGoersOnSixRoads() {
        BlinkerCross x = Check.of(SIX + "goer p a 1;goer q b 2;goer r c 3;goer s e 4;goer t f 6;wants s b 7;wants t f 9;"
                + "wants q a 5;keeps=1;turns=100;stands=next+which;");
        int[][] now = {{0, 1, 1, 0, 0, 0, 1, 0, 1, 100, 1}, {1, 2, 2, 1, 1, 5, 2, 0, 1, 100, 6},
            {2, 3, 3, 2, 2, 0, 3, 0, 1, 100, 28}, {4, 4, 4, 1, 3, 0, 4, 0, 1, 100, 51}, {5, 6, 6, 5, 4, 0, 6, 0, 1, 100, 63}};
        int[][] next = {{1, 1, 1, 1, 0, 0, 1, 0, 1, 100, 2}, {2, 1, 2, 2, 1, 5, 1, 1, 1, 100, 4},
            {3, 2, 3, 3, 2, 0, 2, 2, 1, 100, 24}, {5, 3, 4, 1, 3, 0, 3, 3, 1, 100, 35}, {0, 5, 6, 0, 4, 9, 5, 4, 1, 100, 31}};
        for (int day = 0; day < 2; day++) {
            for (int g = 0; g < 5; g++) {
                for (int what = 0; what <= 10; what++) {
                    check.due("goer(" + g + ", " + what + ") on day " + day, x.goer(g, what), (day == 0 ? now : next)[g][what]);
                }
            }
            x.days(1);
        }
    }

    // LAWS, of STANDS

    private static BlinkerCross standing(String law) {
        return Check.of("road a 4;goer g a 1;wants g a 7;stands=" + law + ";");
    }

    private static void law(String law, int due) {
        check.due("stands=" + law, standing(law).goer(0, 4), due);
    }

    static void p07StandsHeldTo0To99() {
        law("0-9999", 0);
        law("0-1", 0);
        law("0", 0);
        law("1", 1);
        law("98", 98);
        law("99", 99);
        law("100", 99);
        law("9999*9999", 99);
    }

    static void p07KeepsMoreThan0() {
        int[][] due = {{0, 0}, {1, 1}, {2, 1}, {9999, 1}};
        for (int[] d : due) {
            check.due("keeps=" + d[0], Check.of(PAIR + "keeps=" + d[0] + ";").goer(0, 8), d[1]);
        }
        check.due("below 0", Check.of(PAIR + "keeps=0-1;").goer(0, 8), 0);
        check.due("the least there is", Check.of(PAIR + "keeps=4096*4096*128;").goer(0, 8), 0);
        check.due("the most there is", Check.of(PAIR + "keeps=4096*4096*128-1;").goer(0, 8), 1);
    }

    static void p07TurnsHeldTo0To100() {
        int[][] due = {{0, 0}, {1, 1}, {99, 99}, {100, 100}, {101, 100}, {9999, 100}};
        for (int[] d : due) {
            check.due("turns=" + d[0], Check.of(PAIR + "turns=" + d[0] + ";").goer(0, 9), d[1]);
        }
        check.due("below 0", Check.of(PAIR + "turns=0-1;").goer(0, 9), 0);
    }

    static void p07TheFirstIfThatHoldsElseTheLast() {
        law("if 1<2 then 5 else 9", 5);
        law("if 2<1 then 5 else 9", 9);
        law("if 1<2 then 5 else if 1<2 then 6 else if 1<2 then 7 else if 1<2 then 8 else 9", 5);
        law("if 2<1 then 5 else if 1<2 then 6 else if 1<2 then 7 else if 1<2 then 8 else 9", 6);
        law("if 2<1 then 5 else if 2<1 then 6 else if 1<2 then 7 else if 1<2 then 8 else 9", 7);
        law("if 2<1 then 5 else if 2<1 then 6 else if 2<1 then 7 else if 1<2 then 8 else 9", 8);
        law("if 2<1 then 5 else if 2<1 then 6 else if 2<1 then 7 else if 2<1 then 8 else 9", 9);
    }

    static void p07OneLessThanTheOther() {
        law("if 1<1 then 5 else 9", 9);
        law("if 0<1 then 5 else 9", 5);
        law("if 1<0 then 5 else 9", 9);
        law("if 0-1<0 then 5 else 9", 5);
        law("if 0<0-1 then 5 else 9", 9);
        law("if 0-2<0-1 then 5 else 9", 5);
        // the least int there is, and the greatest
        law("if 4096*4096*128<4096*4096*128-1 then 5 else 9", 5);
        law("if 4096*4096*128-1<4096*4096*128 then 5 else 9", 9);
        law("if want<7 then 5 else 9", 9);
        law("if want<8 then 5 else 9", 5);
    }

    static void p07IntsOf32BitsThatWrap() {
        law("4096*4096*256+5", 5);
        law("4096*4096*256*9999+6", 6);
        law("if 4096*4096*128<0 then 5 else 9", 5);
        law("if 4096*4096*127<0 then 5 else 9", 9);
        law("(4096*4096*128-1)-(4096*4096*128-1)+8", 8);
        law("if 4096*4096*128-1<0 then 5 else 9", 9);
        law("if (4096*4096*128-1)+1<0 then 5 else 9", 5);
        law("if 0-4096*4096*128<0 then 5 else 9", 5);
        law("if 0-(4096*4096*128-1)<0 then 5 else 9", 5);
        // 999700029999, of which -1027349969 is left
        law("0-9999*9999*9999/9999/9999", 10);
        // 4299140043, of which 4172747 is left
        law("9999*9999*43/9999/9", 46);
        law("(9999*9999*21+9999*9999*22)/9999/9", 46);
        law("0-(0-9999*9999*21-9999*9999*22)/9999/9", 46);
    }

    static void p07DividedRoundedTowards0() {
        law("7/2", 3);
        law("10+(0-7)/2", 7);
        law("10+7/(0-2)", 7);
        law("(0-7)/(0-2)", 3);
        law("10+(0-1)/2", 10);
        law("10+1/(0-2)", 10);
        law("6/2", 3);
        law("10+(0-6)/2", 7);
        law("1/2", 0);
        law("0/5+4", 4);
        // the least int by -1 is that again
        law("if 4096*4096*128/(0-1)<0 then 5 else 9", 5);
        law("7/1", 7);
        law("10+7/(0-1)", 3);
    }

    static void p07DividedBy0IsALawOf0() {
        law("1/0", 0);
        law("0/0", 0);
        law("5+1/0", 0);
        law("1/0+5", 0);
        law("5-1/0*3", 0);
        law("0*(1/0)+9", 0);
        law("9+1/(want-7)", 0);
        law("9+1/(want-6)", 10);
        law("9+(3/(1/2))", 0);
        law("5+1/4096*4096", 5);
        law("9+1/(4096*4096*256)", 0);
    }

    static void p07DividedBy0InWhatIsLookedAt() {
        law("if 1/0<2 then 5 else 9", 0);
        law("if 2<1/0 then 5 else 9", 0);
        law("if 0-2<1/0 then 5 else 9", 0);
        law("if 1<2 then 5/0 else 9", 0);
        law("if 2<1 then 5 else 9/0", 0);
        law("if 2<1 then 5 else if 1/0<2 then 6 else 9", 0);
        law("if 2<1 then 5 else if 1<2 then 6/0 else 9", 0);
    }

    static void p07DividedBy0InWhatIsNotLookedAt() {
        law("if 1<2 then 5 else 9/0", 5);
        law("if 2<1 then 5/0 else 9", 9);
        law("if 1<2 then 5 else if 1/0<2 then 6 else 9", 5);
        law("if 1<2 then 5 else if 2<1/0 then 6/0 else 9/0", 5);
        law("if 2<1 then 5/0 else if 1<2 then 6 else 9/0", 6);
        law("if 2<1 then 5/0 else if 2<1 then 6/0 else 9", 9);
    }

    static void p07DividedBy0InTheOtherLaws() {
        BlinkerCross x = Check.of(PAIR + "keeps=5+1/0;turns=50+1/0;crowds=9+1/(here-2);");
        check.due("KEEPS", x.goer(0, 8), 0);
        check.due("TURNS", x.goer(0, 9), 0);
        check.due("CROWDS with 2 here", x.crowds(0, 0, 2), 0);
        check.due("CROWDS with 3 here", x.crowds(0, 0, 3), 10);
        check.due("CROWDS with 1 here", x.crowds(0, 0, 1), 8);
    }

    /** Of 400 tokens nine are for a road and a goer; the law's last number counts. */
    static void p07TheLongestLawThatCanBe() {
        String ends = "road a 1;goer p a 1;";
        String long387 = "1" + "+1-1".repeat(96) + "+5";
        check.due("399 tokens: STANDS", Check.of(ends + "stands=" + long387 + ";").goer(0, 4), 6);
        check.due("KEEPS", Check.of(ends + "keeps=0" + "+1-1".repeat(96) + "+1;").goer(0, 8), 1);
        String long388 = "if 0<0 then 0 else 3" + "*7/7".repeat(94) + "+5-1";
        check.due("400 tokens: TURNS", Check.of(ends + "turns=" + long388 + ";").goer(0, 9), 7);
        check.due("CROWDS", Check.of(ends + "crowds=" + long388 + ";").crowds(0, 0, 1), 7);
        String tests = "if " + "1*".repeat(90) + "here<" + "1*".repeat(90) + "1 then 3 else 8+seen;";
        check.due("a long test: STANDS", Check.of(ends + "stands=" + tests).goer(0, 4), 9);
    }

    static void p07NextIsTheGreatestOther() {
        String text = THREE + "goer p a 2;wants p a 9;wants p b 4;wants p c 50;stands=next;";
        BlinkerCross x = Check.of(text);
        check.due("of what they SEE", x.goer(0, 4), 4);
        x.flap(0, 1);
        check.due("none: 0", x.goer(0, 4), 0);
        x.flap(0, 3);
        check.due("the CHOICE is another one", x.goer(0, 4), 9);
        x.wish(0, 0, 50);
        check.due("alike ones", x.goer(0, 4), 50);
        check.due("one road alone", Check.of("road a 1;goer p a 6;wants p a 9;stands=next+7;").goer(0, 4), 7);
    }

    static void p07NextOfMoreGoersThanRoads() {
        BlinkerCross x = Check.of("road a 1;road b 1;goer p a 2;goer q a 2;goer r a 2;goer s a 2;goer t a 2;wants p a 10;"
                + "wants p b 1;wants q a 10;wants q b 2;wants r a 10;wants r b 3;wants s a 10;wants s b 4;wants t a 10;"
                + "wants t b 5;stands=next;");
        for (int g = 0; g < 5; g++) {
            check.due("STANDS of " + g, x.goer(g, 4), g + 1);
        }
    }

    static void p07HereCountsThemselvesToo() {
        String five = THREE + FIVE + "stands=here;";
        BlinkerCross x = Check.of(five);
        check.due("all five", x.goer(0, 4), 5);
        x.turn(4, 1);
        check.due("four", x.goer(0, 4), 4);
        check.due("alone", x.goer(4, 4), 1);
    }

    static void p07WhatLawsLookAtAtFirst() {
        String[] vars = {"seen", "want", "next", "wide", "here", "day", "which", "stood", "roads"};
        int[] first = {1, 7, 0, 4, 1, 0, 0, 0, 1};
        for (int v = 0; v < vars.length; v++) {
            law(vars[v], first[v]);
        }
        BlinkerCross x = Check.of(SIX + FIVE + "stands=which;");
        for (int g = 0; g < 5; g++) {
            check.due("which of " + g, x.goer(g, 4), g);
        }
        check.due("roads of six", Check.of(SIX + "goer p a 1;stands=roads;").goer(0, 4), 6);
        check.due("wide of 9", Check.of("road a 1;road b 9;goer p b 1;stands=wide;").goer(0, 4), 9);
        check.due("want of 99", Check.of("road a 1;goer p a 1;wants p a 99;stands=want;").goer(0, 4), 99);
    }

    static void p07WhatLawsLookAtLater() {
        BlinkerCross x = Check.of("road a 1;goer p a 1;stands=day+1;keeps=stood-2;turns=stood*10+day;");
        // STANDS 1, 2, 3: stood 1, 3, 6
        check.due("KEEPS with 0 stood", x.goer(0, 8), 0);
        x.days(1);
        check.due("STANDS on day 1", x.goer(0, 4), 2);
        check.due("KEEPS with 1 stood", x.goer(0, 8), 0);
        check.due("TURNS on day 1", x.goer(0, 9), 11);
        x.days(1);
        check.due("KEEPS with 3 stood", x.goer(0, 8), 1);
        check.due("TURNS on day 2", x.goer(0, 9), 32);
        x.days(1);
        check.due("stood so far", x.goer(0, 7), 6);
    }

    // ---- promises 8, 9, 10

    static void p08NoSuchGoer() {
        BlinkerCross x = Check.of(PAIR);
        for (int goer : new int[] {-1, 2, 5, MIN, MAX}) {
            check.due("gained(" + goer + ")", x.gained(goer), -100000);
        }
    }

    static void p08NothingAtFirst() {
        BlinkerCross x = Check.of(PAIR);
        check.due("gained(0)", x.gained(0), 0);
        check.due("gained(1)", x.gained(1), 0);
    }

    static void p08MayBeBelow0() {
        BlinkerCross x = Check.of(PAIR + "crowds=if which<1 then 99 else 2;");
        x.days(1);
        check.due("7 less 99", x.gained(0), -92);
        check.due("2 less 2", x.gained(1), 0);
        for (int i = 0; i < 20; i++) {
            x.days(60);
        }
        check.due("1201 days of it", x.gained(0), -92 * 1201);
        check.due("no such GOER all the same", x.gained(2), -100000);
    }

    static void p08GainByCrowdsHeldTo0To99() {
        int[][] due = {{9999, 7 - 99}, {100, 7 - 99}, {98, 7 - 98}, {0, 7}};
        for (int[] d : due) {
            BlinkerCross x = Check.of("road a 4;goer p a 1;wants p a 7;crowds=" + d[0] + ";");
            x.days(2);
            check.due("gained(0) with crowds=" + d[0], x.gained(0), 2 * d[1]);
        }
        BlinkerCross y = Check.of("road a 4;goer p a 1;wants p a 7;crowds=0-9999;");
        y.days(2);
        check.due("gained(0) with crowds below 0", y.gained(0), 14);
        BlinkerCross z = Check.of("road a 4;goer p a 1;wants p a 7;crowds=9+1/day;");
        z.days(1);
        check.due("gained(0) with CROWDS divided by 0", z.gained(0), 7);
    }

    static void p09NoSuchOnes() {
        BlinkerCross x = Check.of(PAIR);
        int[][] no = {{-1, 0}, {2, 0}, {0, -1}, {0, 2}, {-1, -1}, {2, 2}, {MIN, 0}, {MAX, 0}, {0, MIN}, {0, MAX}, {5, 0},
            {0, 6}, {1, 2}, {2, 1}};
        for (int[] a : no) {
            check.due("want(" + a[0] + ", " + a[1] + ")", x.want(a[0], a[1]), -1);
        }
    }

    static void p09From0To99() {
        BlinkerCross x = Check.of(SIX + FIVE + "wants t f 99;wants p a 98;");
        check.due("want(4, 5)", x.want(4, 5), 99);
        check.due("want(0, 0)", x.want(0, 0), 98);
        check.due("want(4, 4), not told", x.want(4, 4), 0);
        check.due("want(3, 5), not told", x.want(3, 5), 0);
    }

    static void p10NoSuchOnes() {
        BlinkerCross x = Check.of(PAIR);
        int[][] no = {{-1, 0, 1}, {2, 0, 1}, {0, -1, 1}, {0, 2, 1}, {0, 0, 0}, {0, 0, 6}, {0, 0, -1}, {0, 0, MIN},
            {0, 0, MAX}, {MAX, 0, 1}, {MIN, 0, 1}, {0, MAX, 1}, {0, MIN, 1}, {5, 0, 1}, {0, 6, 1}};
        for (int[] a : no) {
            check.due("crowds(" + a[0] + ", " + a[1] + ", " + a[2] + ")", x.crowds(a[0], a[1], a[2]), -1);
        }
    }

    static void p10NumbersFrom1To5HoweverManyThereAre() {
        BlinkerCross x = Check.of("road a 1;goer p a 1;");
        for (int k = 1; k <= 5; k++) {
            check.due("crowds(0, 0, " + k + ")", x.crowds(0, 0, k), k);
        }
    }

    static void p10HeldTo0To99() {
        BlinkerCross x = Check.of("road a 1;goer p a 1;crowds=here*50-51;");
        int[] due = {0, 49, 99, 99, 99};
        for (int k = 1; k <= 5; k++) {
            check.due("crowds(0, 0, " + k + ")", x.crowds(0, 0, k), due[k - 1]);
        }
        BlinkerCross y = Check.of("road a 1;goer p a 1;crowds=100-here;");
        check.due("99 of 99", y.crowds(0, 0, 1), 99);
        check.due("98 of 98", y.crowds(0, 0, 2), 98);
        BlinkerCross z = Check.of("road a 1;goer p a 1;crowds=here-2;");
        check.due("0 of -1", z.crowds(0, 0, 1), 0);
        check.due("0 of 0", z.crowds(0, 0, 2), 0);
        check.due("1 of 1", z.crowds(0, 0, 3), 1);
    }

    static void p10OfTheRoadThatIsAskedFor() {
        BlinkerCross x = Check.of(PAIR + "crowds=want*10+wide;");
        check.due("the CHOICE", x.crowds(0, 1, 1), 79);
        check.due("not the CHOICE", x.crowds(0, 0, 1), 4);
        check.due("not seen", x.crowds(1, 0, 1), 34);
    }

    static void p10NextIs0() {
        BlinkerCross x = Check.of(PAIR + "crowds=next+6;wants p a 6;stands=next;");
        for (int g = 0; g < 2; g++) {
            for (int r = 0; r < 2; r++) {
                check.due("for STANDS of 0 it is not", x.goer(0, 4), 6);
                check.due("crowds(" + g + ", " + r + ", 2)", x.crowds(g, r, 2), 6);
            }
        }
    }

    static void p10ElseAsAbove() {
        String[] vars = {"seen", "day", "which", "stood", "roads"};
        int[][] due = {{2, 1}, {2, 2}, {0, 1}, {4, 2}, {2, 2}};
        for (int v = 0; v < vars.length; v++) {
            BlinkerCross x = Check.of(PAIR + "crowds=" + vars[v] + ";");
            x.days(2);
            check.due("crowds=" + vars[v] + " of 0", x.crowds(0, 0, 5), due[v][0]);
            check.due("crowds=" + vars[v] + " of 1", x.crowds(1, 0, 5), due[v][1]);
        }
    }

    // ---- promise 11: flap

    static void p11NoSuchOnes() {
        BlinkerCross x = Check.of(PAIR);
        int[] before = Check.state(x);
        int[][] no = {{-1, 1}, {2, 1}, {5, 1}, {MIN, 1}, {MAX, 1}, {0, 0}, {0, 7}, {0, -1}, {0, MIN}, {0, MAX}};
        for (int[] a : no) {
            check.due("flap(" + a[0] + ", " + a[1] + ")", x.flap(a[0], a[1]), false);
        }
        check.same("nothing happens", Check.state(x), before);
        check.due("undo()", x.undo(), false);
    }

    static void p11SightsFrom1To6() {
        BlinkerCross x = Check.of(PAIR);
        for (int sight : new int[] {1, 6, 5, 4, 3, 2, 1}) {
            check.due("flap(0, " + sight + ")", x.flap(0, sight), true);
            check.due("SIGHT", x.goer(0, 1), sight);
            check.due("as set", x.goer(0, 2), sight);
            check.due("SEEN", x.goer(0, 6), Math.min(2, sight));
        }
        check.due("count(9)", x.count(9), 7);
    }

    static void p11SightIsSoAndAsSet() {
        BlinkerCross x = Check.of(PAIR);
        check.due("as told", x.flap(0, 2), false);
        x.flap(0, 5);
        check.due("as set", x.flap(0, 5), false);
        check.due("count(9)", x.count(9), 1);
    }

    static void p11SightIsSoButNotAsSet() {
        BlinkerCross x = Check.of(SIX + "goer p a 4;keeps=1;");
        x.days(1);
        check.due("flap(0, 3)", x.flap(0, 3), true);
        check.due("as set", x.goer(0, 2), 3);
        check.due("SIGHT", x.goer(0, 1), 3);
        check.due("flap(0, 3) again", x.flap(0, 3), false);
    }

    static void p11AsSetButSightIsNotSo() {
        BlinkerCross x = Check.of(SIX + "goer p a 4;keeps=1;");
        x.days(1);
        check.due("flap(0, 4)", x.flap(0, 4), true);
        check.due("SIGHT", x.goer(0, 1), 4);
        check.due("as set", x.goer(0, 2), 4);
        check.due("SEEN", x.goer(0, 6), 4);
    }

    static void p11OfEachGoer() {
        BlinkerCross x = Check.of(SIX + "goer p a 2;goer q b 3;goer r c 4;goer s e 5;goer t f 6;keeps=1;");
        for (int g = 0; g < 5; g++) {
            check.due("flap(" + g + "), as told", x.flap(g, g + 2), false);
        }
        x.days(1);
        for (int g = 0; g < 5; g++) {
            check.due("flap(" + g + "), not as told", x.flap(g, g + 1), true);
            check.due("flap(" + g + "), as set", x.flap(g, g + 1), false);
            check.due("SIGHT of " + g, x.goer(g, 1), g + 1);
            check.due("as set of " + g, x.goer(g, 2), g + 1);
        }
    }

    static void p11OnlyThatGoers() {
        BlinkerCross x = Check.of(SIX + FIVE);
        x.flap(4, 6);
        for (int g = 0; g < 4; g++) {
            check.due("SIGHT of " + g, x.goer(g, 1), 1);
        }
        check.due("SIGHT of 4", x.goer(4, 1), 6);
    }

    // ---- promise 12: turn

    static void p12NoSuchOnes() {
        BlinkerCross x = Check.of(PAIR);
        int[] before = Check.state(x);
        int[][] no = {{-1, 1}, {2, 1}, {5, 0}, {MIN, 1}, {MAX, 1}, {0, -1}, {0, 2}, {0, 6}, {0, MIN}, {0, MAX}};
        for (int[] a : no) {
            check.due("turn(" + a[0] + ", " + a[1] + ")", x.turn(a[0], a[1]), false);
        }
        check.same("nothing happens", Check.state(x), before);
        check.due("undo()", x.undo(), false);
    }

    static void p12ItFacesThat() {
        BlinkerCross x = Check.of(PAIR);
        check.due("turn(0, 0)", x.turn(0, 0), false);
        check.due("turn(1, 1)", x.turn(1, 1), false);
        check.due("count(9)", x.count(9), 0);
        check.due("turn(0, 1)", x.turn(0, 1), true);
        check.due("turn(0, 1) again", x.turn(0, 1), false);
        check.due("count(9)", x.count(9), 1);
    }

    static void p12ToTheFirstAndTheLast() {
        BlinkerCross x = Check.of(SIX + "goer p c 2;");
        check.due("turn(0, 5)", x.turn(0, 5), true);
        check.due("FACES", x.goer(0, 0), 5);
        check.due("SEES", x.goer(0, 10), 33);
        check.due("turn(0, 0)", x.turn(0, 0), true);
        check.due("SEES", x.goer(0, 10), 3);
        check.due("SIGHT stays", x.goer(0, 1), 2);
    }

    // ---- promise 13: wish

    static void p13NoSuchOnes() {
        BlinkerCross x = Check.of(PAIR);
        int[] before = Check.state(x);
        int[][] no = {{-1, 0, 1}, {2, 0, 1}, {5, 0, 1}, {0, -1, 1}, {0, 2, 1}, {0, 6, 1}, {0, 0, -1}, {0, 0, 100},
            {0, 0, MIN}, {0, 0, MAX}, {MIN, 0, 1}, {MAX, 0, 1}, {0, MIN, 1}, {0, MAX, 1}};
        for (int[] a : no) {
            check.due("wish(" + a[0] + ", " + a[1] + ", " + a[2] + ")", x.wish(a[0], a[1], a[2]), false);
        }
        check.same("nothing happens", Check.state(x), before);
        check.due("undo()", x.undo(), false);
    }

    static void p13WantsFrom0To99() {
        BlinkerCross x = Check.of(PAIR);
        for (int want : new int[] {99, 0, 1, 98}) {
            check.due("wish(0, 0, " + want + ")", x.wish(0, 0, want), true);
            check.due("want(0, 0)", x.want(0, 0), want);
        }
        check.due("count(9)", x.count(9), 4);
    }

    static void p13ItIsSo() {
        BlinkerCross x = Check.of(PAIR);
        check.due("told", x.wish(0, 1, 7), false);
        check.due("0, as not told", x.wish(0, 0, 0), false);
        x.wish(0, 0, 5);
        check.due("changed", x.wish(0, 0, 5), false);
        check.due("count(9)", x.count(9), 1);
    }

    static void p13OnlyThatWant() {
        BlinkerCross x = Check.of(SIX + FIVE);
        x.wish(4, 5, 9);
        x.wish(0, 0, 8);
        for (int i = 0; i < 30; i++) {
            check.due("want(" + i / 6 + ", " + i % 6 + ")", x.want(i / 6, i % 6), i == 0 ? 8 : i == 29 ? 9 : 0);
        }
    }

    // ---- promise 14: days

    static void p14NoSuchNumber() {
        BlinkerCross x = Check.of(PAIR);
        x.days(3);
        int[] before = Check.state(x);
        for (int n : new int[] {-1, -2, 61, 62, 1000, MIN, MAX}) {
            check.due("days(" + n + ")", x.days(n), -1);
        }
        check.same("nothing happens", Check.state(x), before);
    }

    static void p14NoneIsNoThingDone() {
        BlinkerCross x = Check.of(PAIR);
        check.due("days(0)", x.days(0), 0);
        check.due("count(9)", x.count(9), 0);
        x.days(7);
        check.due("days(0)", x.days(0), 7);
        check.due("count(9)", x.count(9), 1);
        x.undo();
        check.due("the day", x.count(2), 0);
    }

    static void p14From1To60() {
        BlinkerCross x = Check.of(PAIR);
        check.due("days(1)", x.days(1), 1);
        check.due("days(60)", x.days(60), 61);
        check.due("days(59)", x.days(59), 120);
        check.due("count(2)", x.count(2), 120);
        check.due("count(9)", x.count(9), 3);
        check.due("stood", x.goer(0, 7), 240);
    }

    static void p14ManyAreAsOneByOne() {
        String text = SIX + "goer p a 4;goer q f 2;goer r c 6;wants p c 9;wants q a 50;wants r b 4;wants r f 3;seed 77;"
                + "keeps=day/3-stood/9;turns=50+which*20;stands=seen+here;crowds=here*wide+stood;";
        BlinkerCross x = Check.of(text);
        BlinkerCross y = Check.of(text);
        x.days(25);
        for (int i = 0; i < 25; i++) {
            y.days(1);
        }
        int[] one = Check.state(x);
        int[] many = Check.state(y);
        many[9] = one[9];
        check.same("25 days", many, one);
    }

    static void p14WithoutGoers() {
        BlinkerCross x = Check.of(SIX);
        check.due("days(60)", x.days(60), 60);
        check.due("count(9)", x.count(9), 1);
        check.due("count(12)", x.count(12), 0);
    }

    static void p14Sight1LessAnd1AtLeast() {
        BlinkerCross x = Check.of(SIX + "goer p a 3;goer q a 1;keeps=1;");
        int[] due = {3, 2, 1, 1, 1};
        for (int day = 0; day < due.length; day++) {
            check.due("SIGHT on day " + day, x.goer(0, 1), due[day]);
            check.due("SIGHT of 1 on day " + day, x.goer(1, 1), 1);
            check.due("as told", x.goer(0, 2), 3);
            x.days(1);
        }
    }

    static void p14Sight1MoreAndAsMuchAsToldAtMost() {
        BlinkerCross x = Check.of(SIX + "goer p a 3;goer q a 6;keeps=if day<5 then 1 else 0;");
        x.days(5);
        int[] p = {1, 2, 3, 3, 3, 3, 3};
        int[] q = {1, 2, 3, 4, 5, 6, 6};
        for (int i = 0; i < p.length; i++) {
            check.due("SIGHT behind " + i, x.goer(0, 1), p[i]);
            check.due("SIGHT of 1 behind " + i, x.goer(1, 1), q[i]);
            x.days(1);
        }
    }

    static void p14Sight1MoreHoweverLongTheyStand() {
        for (String stands : new String[] {"0", "7", "99"}) {
            BlinkerCross x = Check.of(SIX + "goer p a 6;keeps=if day<5 then 1 else 0;stands=" + stands + ";");
            x.days(5);
            for (int sight = 1; sight <= 6; sight++) {
                check.due("STANDS " + stands + ", SIGHT", x.goer(0, 1), sight);
                x.days(1);
            }
        }
    }

    static void p14AsMuchAsSetSinceAtMost() {
        BlinkerCross x = Check.of(SIX + "goer p a 6;keeps=if day<1 then 1 else 0;");
        x.flap(0, 3);
        int[] due = {3, 2, 3, 3};
        for (int day = 0; day < due.length; day++) {
            check.due("SIGHT on day " + day, x.goer(0, 1), due[day]);
            x.days(1);
        }
        x.flap(0, 5);
        x.days(1);
        check.due("no more than that", x.goer(0, 1), 5);
    }

    static void p14SightBeyondAllTheRoads() {
        BlinkerCross x = Check.of("road a 1;road b 1;goer p a 6;keeps=1;");
        int[] sight = {6, 5, 4, 3, 2, 1};
        int[] seen = {2, 2, 2, 2, 2, 1};
        for (int day = 0; day < 6; day++) {
            check.due("SIGHT on day " + day, x.goer(0, 1), sight[day]);
            check.due("SEEN on day " + day, x.goer(0, 6), seen[day]);
            x.days(1);
        }
        check.due("stood", x.goer(0, 7), 11);
    }

    static void p14WhoKeepsByMoreThan0() {
        String[] keeps = {"0", "1", "0-1", "9999", "4096*4096*128", "5/day"};
        int[] due = {3, 2, 3, 2, 3, 3};
        for (int i = 0; i < keeps.length; i++) {
            BlinkerCross x = Check.of(SIX + "goer p a 3;keeps=" + keeps[i] + ";");
            x.days(1);
            check.due("SIGHT with keeps=" + keeps[i], x.goer(0, 1), due[i]);
        }
    }

    static void p14StandsHeldTo0To99() {
        String[] stands = {"0-1", "0", "99", "100", "9999*9999", "5/day"};
        int[] due = {0, 0, 99, 99, 99, 0};
        for (int i = 0; i < stands.length; i++) {
            BlinkerCross x = Check.of(SIX + "goer p a 3;stands=" + stands[i] + ";");
            x.days(1);
            check.due("stood with stands=" + stands[i], x.goer(0, 7), due[i]);
        }
    }

    static void p14TheNextRoadBehindTheLastIsTheFirst() {
        BlinkerCross x = Check.of(THREE + "goer p c 1;goer q a 1;turns=100;");
        int[] due = {2, 0, 1, 2, 0};
        for (int day = 0; day < due.length; day++) {
            check.due("FACES on day " + day, x.goer(0, 0), due[day]);
            check.due("FACES of 1 on day " + day, x.goer(1, 0), day % 3);
            x.days(1);
        }
        BlinkerCross y = Check.of("road a 1;goer p a 1;turns=100;");
        y.days(5);
        check.due("one road alone", y.goer(0, 0), 0);
        BlinkerCross z = Check.of(SIX + "goer p f 1;turns=100;");
        z.days(1);
        check.due("behind the sixth", z.goer(0, 0), 0);
    }

    /** LOT 0: number 0 on day 0 with the seeds 33, 137; LOT 99: with 100, 290; worked out outside. */
    static void p14TurnsOf0NeverAndOf100Always() {
        String text = "road a 1;road b 1;goer p a 1;seed ";
        int[][] due = {{33, 0, 0}, {33, 1, 1}, {137, 0, 0}, {137, 1, 1}, {100, 99, 0}, {100, 100, 1}, {290, 99, 0},
            {290, 100, 1}};
        for (int[] d : due) {
            BlinkerCross x = Check.of(text + d[0] + ";turns=" + d[1] + ";");
            x.days(1);
            check.due("seed " + d[0] + ", TURNS " + d[1], x.goer(0, 0), d[2]);
        }
        BlinkerCross never = Check.of(text + "33;turns=0-5;");
        never.days(60);
        check.due("below 0 is 0", never.goer(0, 0), 0);
        BlinkerCross ever = Check.of(text + "33;turns=9999;");
        for (int day = 1; day <= 60; day++) {
            ever.days(1);
            check.due("more than 100 is 100", ever.goer(0, 0), day % 2);
        }
    }

    /** LOTs worked out outside. TURNS of one GOER on one day is their LOT, then one more. */
    private static void lot(int seed, int day, int goer, int lot) {
        for (int more = 0; more <= 1; more++) {
            BlinkerCross x = Check.of("road a 1;road b 1;" + FIVE + "seed " + seed + ";turns=if day<" + day
                    + " then 0 else if " + day + "<day then 0 else if which<" + goer + " then 0 else if " + goer
                    + "<which then 0 else " + (lot + more) + ";");
            for (int gone = 0; gone <= day; gone += 60) {
                x.days(Math.min(60, day + 1 - gone));
            }
            for (int g = 0; g < 5; g++) {
                check.due("seed " + seed + ", day " + day + ", TURNS " + (lot + more) + " of " + goer + ": FACE of " + g,
                        x.goer(g, 0), g == goer ? more : 0);
            }
        }
    }

    static void p14LotLessThanTurns() {
        int[][] seven = {{67, 40, 73, 40, 42}, {60, 75, 15, 42, 80}, {34, 77, 54, 83, 25}};
        int[][] most = {{23, 96, 77, 52, 48}, {29, 50, 67, 25, 38}, {34, 29, 74, 63, 11}};
        for (int day = 0; day < 3; day++) {
            for (int g = 0; g < 5; g++) {
                lot(7, day, g, seven[day][g]);
                lot(9999, day, g, most[day][g]);
            }
        }
    }

    /** LOT 0 with 33, and without a seed, which is 0, LOT 69; worked out outside. */
    static void p14ByTheSeedWhereverItIsTold() {
        String[] tells = {"road c 1;", "goer q c 1;", "wants p a 5;", "wants q c 9;", "turns=1;", "keeps=which;"};
        String ends = "road a 1;road b 1;goer p a 1;";
        for (int at = 0; at <= tells.length; at++) {
            StringBuilder text = new StringBuilder(ends);
            for (int i = 0; i < tells.length; i++) {
                text.append(i == at ? "seed 33;" : "").append(tells[i]);
            }
            BlinkerCross x = Check.of(text + (at == tells.length ? "seed 33;" : ""));
            x.days(1);
            check.due("the seed ahead of tell " + at, x.goer(0, 0), 1);
        }
        check.due("ahead of all", turned("seed 33;" + ends + "turns=1;"), 1);
        check.due("the last one", turned("seed 33;" + ends + "turns=1;seed 7;"), 0);
        check.due("the last one", turned("seed 7;" + ends + "turns=1;seed 33;wants p b 0;"), 1);
        check.due("none, not less than TURNS", turned(ends + "wants p a 5;turns=69;"), 0);
        check.due("none, less than TURNS", turned(ends + "wants p a 5;turns=70;"), 1);
    }

    private static int turned(String text) {
        BlinkerCross x = Check.of(text);
        x.days(1);
        return x.goer(0, 0);
    }

    static void p14LotsOfLateDays() {
        lot(0, 59, 0, 75);
        lot(0, 60, 4, 52);
        lot(7, 119, 3, 47);
        lot(9999, 60, 2, 89);
        lot(1, 200, 1, 67);
        lot(5000, 299, 4, 71);
    }

    static void p14AllByHowItWasAsItBegan() {
        // the first turns from a to b: on that day the second gains and stands as with two on a
        BlinkerCross x = Check.of("road a 1;road b 1;goer p a 1;goer q a 1;wants p a 9;wants p b 5;wants q a 9;"
                + "turns=if which<1 then 100 else 0;stands=here;crowds=here*2;");
        x.days(1);
        check.due("gained(0)", x.gained(0), 5);
        check.due("gained(1)", x.gained(1), 5);
        check.due("stood of 1", x.goer(1, 7), 2);
        x.days(1);
        check.due("gained(0)", x.gained(0), 5 + 3);
        check.due("gained(1)", x.gained(1), 5 + 7);
        check.due("stood of 1", x.goer(1, 7), 3);
    }

    static void p14StandsAndGainByTheMorning() {
        // 1, 2, 4, 8 longer; the GAIN is 50 less what was stood ahead of the day
        BlinkerCross x = Check.of("road a 1;goer p a 1;wants p a 50;stands=stood+1;crowds=stood;");
        int[] stood = {1, 3, 7, 15};
        int[] gained = {50, 99, 146, 189};
        for (int i = 0; i < 4; i++) {
            x.days(1);
            check.due("stood behind " + (i + 1), x.goer(0, 7), stood[i]);
            check.due("gained behind " + (i + 1), x.gained(0), gained[i]);
        }
        // SIGHT of the morning: 3, 2, 1 seen, though KEEPS makes it less on that day
        BlinkerCross y = Check.of(THREE + "goer p a 3;keeps=1;");
        y.days(1);
        check.due("stood", y.goer(0, 7), 3);
        y.days(2);
        check.due("stood", y.goer(0, 7), 6);
        // KEEPS, TURNS by the day that begins: the first is 0
        BlinkerCross z = Check.of(THREE + "goer p a 3;keeps=day;turns=day*100;");
        z.days(1);
        check.due("SIGHT", z.goer(0, 1), 3);
        check.due("FACES", z.goer(0, 0), 0);
        z.days(1);
        check.due("SIGHT", z.goer(0, 1), 2);
        check.due("FACES", z.goer(0, 0), 1);
    }

    static void p14TheKeepsAndTurnsOfTheMorningsCrowd() {
        // both on a: KEEPS and TURNS of each by two, though the first one turns ahead of the second
        BlinkerCross x = Check.of("road a 1;road b 1;goer p a 2;goer q a 2;wants p a 9;wants q a 9;keeps=here-1;"
                + "turns=if here<2 then 0 else 100;");
        x.days(1);
        for (int g = 0; g < 2; g++) {
            check.due("SIGHT of " + g, x.goer(g, 1), 1);
            check.due("FACES of " + g, x.goer(g, 0), 1);
        }
    }

    static void p14GainOfAsManyAsTakeIt() {
        BlinkerCross x = Check.of(THREE + FIVE + "wants p a 9;wants q a 0;");
        x.days(1);
        check.due("9 less 5", x.gained(0), 4);
        check.due("0 less 5", x.gained(1), -5);
        x.turn(4, 1);
        x.days(1);
        check.due("9 less 4", x.gained(0), 4 + 5);
        check.due("0 less 1", x.gained(4), -5 - 1);
    }

    static void p14GainByTheWantAndWideOfTheChoice() {
        // p on c: 50 less 9 + 5; q on a: 20 less 2 + 2; r on b: 40 less 5 + 4
        BlinkerCross x = Check.of("road a 2;road b 5;road c 9;goer p c 1;goer q a 1;goer r b 1;wants p c 50;wants q a 20;"
                + "wants r b 40;crowds=wide+want/10;");
        check.due("GAIN of all", x.count(5), 36 + 16 + 31);
        x.days(1);
        check.due("gained(0)", x.gained(0), 36);
        check.due("gained(1)", x.gained(1), 16);
        check.due("gained(2)", x.gained(2), 31);
        check.due("in 2 days", x.gainedIn(0, 2), 3 * 36);
    }

    static void p14StandsOf0And99() {
        BlinkerCross x = Check.of("road a 1;goer p a 1;goer q a 1;stands=which*1000-1;crowds=99;");
        for (int i = 0; i < 10; i++) {
            x.days(60);
        }
        check.due("stood of 0", x.goer(0, 7), 0);
        check.due("stood of 1", x.goer(1, 7), 99 * 600);
        check.due("gained(1)", x.gained(1), -99 * 600);
    }

    // ---- promise 15: undo

    static void p15ThereIsNone() {
        check.due("a new object", new BlinkerCross().undo(), false);
        BlinkerCross x = Check.of(PAIR);
        int[] before = Check.state(x);
        check.due("behind a read()", x.undo(), false);
        check.same("nothing happens", Check.state(x), before);
        x.days(1);
        check.due("undo()", x.undo(), true);
        check.due("undo() again", x.undo(), false);
        check.same("as ahead of it", Check.state(x), before);
    }

    static void p15EachThingThatIsDone() {
        BlinkerCross x = Check.of(PAIR + "turns=100;keeps=which;crowds=stood;");
        x.days(2);
        int[] before = Check.state(x);
        for (int thing = 0; thing < 4; thing++) {
            boolean done = thing == 0 ? x.flap(0, 6) : thing == 1 ? x.turn(0, 1) : thing == 2 ? x.wish(0, 1, 99)
                    : x.days(60) == 62;
            check.due("thing " + thing, done, true);
            check.due("count(9)", x.count(9), 2);
            check.due("undo()", x.undo(), true);
            check.same("thing " + thing, Check.state(x), before);
        }
    }

    static void p15DaysAreOneThing() {
        BlinkerCross x = Check.of(PAIR);
        x.days(1);
        x.days(60);
        check.due("count(9)", x.count(9), 2);
        x.undo();
        check.due("the day", x.count(2), 1);
        x.undo();
        check.due("the day", x.count(2), 0);
    }

    static void p15WhatWasRefusedIsNoThingDone() {
        BlinkerCross x = Check.of(PAIR);
        x.wish(0, 0, 8);
        x.flap(0, 2);
        x.flap(0, 7);
        x.turn(0, 0);
        x.turn(0, 2);
        x.wish(0, 0, 8);
        x.wish(0, 0, 100);
        x.days(0);
        x.days(61);
        check.due("count(9)", x.count(9), 1);
        check.due("undo()", x.undo(), true);
        check.due("want(0, 0)", x.want(0, 0), 0);
        check.due("undo() again", x.undo(), false);
    }

    static void p15NoThingsDoneBesideThese() {
        BlinkerCross x = Check.of(PAIR);
        x.tell(0, 0, true);
        x.hold(0);
        x.feed(1, 2, 3, 4, 5);
        x.forget();
        x.year(0, 0, 60, 20);
        x.plan(9, 0);
        check.due("count(9)", x.count(9), 0);
        check.due("undo()", x.undo(), false);
        x.wish(0, 0, 5);
        x.tell(0, 0, true);
        x.undo();
        check.due("what is TOLD stays", x.count(10), 1);
        check.due("the tape stays", x.count(8), 20);
        check.due("the SLOTS stay", x.count(11), 1);
    }

    /** The i-th thing that is done makes the WANT i. */
    private static BlinkerCross done(int things) {
        BlinkerCross x = Check.of("road a 1;goer p a 1;");
        for (int i = 1; i <= things; i++) {
            x.wish(0, 0, i);
        }
        return x;
    }

    static void p15TheLast40CanBe() {
        int[][] due = {{39, 0}, {40, 0}, {41, 1}, {42, 2}, {80, 40}, {81, 41}, {99, 59}};
        for (int[] d : due) {
            BlinkerCross x = done(d[0]);
            check.due("count(9) behind " + d[0], x.count(9), d[0] - d[1]);
            for (int i = d[0] - 1; i >= d[1]; i--) {
                check.due("undo() to " + i, x.undo(), true);
                check.due("want(0, 0)", x.want(0, 0), i);
            }
            check.due("one more undo()", x.undo(), false);
            check.due("want(0, 0)", x.want(0, 0), d[1]);
            check.due("count(9)", x.count(9), 0);
        }
    }

    static void p15ThingsAreDoneAgainBehindAnUndo() {
        BlinkerCross x = done(40);
        for (int i = 0; i < 10; i++) {
            x.undo();
        }
        check.due("count(9)", x.count(9), 30);
        for (int i = 0; i < 11; i++) {
            x.wish(0, 0, 60 + i);
        }
        check.due("count(9)", x.count(9), 40);
        for (int i = 10; i > 0; i--) {
            x.undo();
            check.due("want(0, 0)", x.want(0, 0), 60 + i - 1);
        }
        x.undo();
        check.due("want(0, 0)", x.want(0, 0), 30);
        for (int i = 29; i > 0; i--) {
            check.due("undo()", x.undo(), true);
            check.due("want(0, 0)", x.want(0, 0), i);
        }
        check.due("undo(): the first one is too far back", x.undo(), false);
    }

    static void p15RoundAndRound() {
        BlinkerCross x = done(60);
        for (int i = 0; i < 30; i++) {
            x.undo();
        }
        for (int i = 0; i < 25; i++) {
            x.wish(0, 0, 99 - i);
        }
        check.due("count(9)", x.count(9), 35);
        for (int i = 0; i < 35; i++) {
            check.due("undo()", x.undo(), true);
        }
        check.due("undo()", x.undo(), false);
        check.due("want(0, 0)", x.want(0, 0), 20);
    }
}
