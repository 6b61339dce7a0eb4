/** Promises 6 to 15 and 36 to 38: how it is, what is done by hand, days, undone and held. */
public final class StateTest {
    private static final Check check = new Check();
    static final String TEXT = "road n 3;road e 1;road s 9;goer ann n 2;goer bob s 2;goer cy e 1;"
            + "wants ann n 10;wants ann e 20;wants ann s 30;wants bob s 5;wants bob n 5;wants bob e 7;wants cy e 40;";

    public static void main(String[] args) {
        roads();
        goers();
        wantsAndCrowds();
        lawValues();
        lawVariables();
        heldValues();
        flaps();
        turns();
        wishes();
        daysGoBy();
        sightsByDays();
        lots();
        crowdOfTheMorning();
        undone();
        held();
        counts();
        check.end();
    }

    private static void rows(BlinkerCross x, String what, int[][] due) {
        for (int i = 0; i < due.length; i++) {
            for (int j = 0; j < due[i].length; j++) {
                int got = what.equals("road") ? x.road(i, j) : x.goer(i, j);
                check.due(what + "(" + i + ", " + j + ")", got, due[i][j]);
            }
        }
    }

    private static void roads() {
        check.about("promise 6");
        BlinkerCross x = Check.of(TEXT);
        rows(x, "road", new int[][] {{3, 0, 3, 15, -1}, {1, 2, 5, 67, -1}, {9, 1, 2, 35, -1}, {-1, -1, -1, -1}});
        check.due("road(-1, 0)", x.road(-1, 0), -1);
        check.due("road(0, -1)", x.road(0, -1), -1);
        check.due("road(MAX, 1)", x.road(Integer.MAX_VALUE, 1), -1);
        check.due("road(MIN, 1)", x.road(Integer.MIN_VALUE, 1), -1);
    }

    private static void goers() {
        check.about("promise 7");
        BlinkerCross x = Check.of(TEXT + "keeps=which;turns=which*70;");
        rows(x, "goer", new int[][] {{0, 2, 2, 1, 2, 10, 2, 0, 0, 0, 3, -1}, {2, 2, 2, 2, 2, 2, 2, 0, 1, 70, 5, -1},
            {1, 1, 1, 1, 1, 0, 1, 0, 1, 100, 2, -1}, {-1, -1, -1, -1, -1, -1, -1, -1, -1, -1, -1}});
        check.due("goer(-1, 0)", x.goer(-1, 0), -1);
        check.due("goer(0, -1)", x.goer(0, -1), -1);
        check.due("goer(MIN, 4)", x.goer(Integer.MIN_VALUE, 4), -1);
        BlinkerCross y = Check.of("road a 1;road b 1;goer g b 5;");
        rows(y, "goer", new int[][] {{1, 5, 5, 1, 2, 0, 2, 0, 0, 0, 3}});
    }

    private static void wantsAndCrowds() {
        check.about("promises 8, 9 and 10");
        BlinkerCross x = Check.of(TEXT + "wants ann n 11;crowds=want+wide*here+next*50;");
        check.due("gained(0)", x.gained(0), 0);
        check.due("gained(3)", x.gained(3), -100000);
        check.due("gained(-1)", x.gained(-1), -100000);
        check.due("want(0, 0)", x.want(0, 0), 11);
        check.due("want(2, 1)", x.want(2, 1), 40);
        check.due("want(2, 2)", x.want(2, 2), 0);
        check.due("want(3, 0)", x.want(3, 0), -1);
        check.due("want(0, 3)", x.want(0, 3), -1);
        check.due("want(-1, -1)", x.want(-1, -1), -1);
        check.due("crowds(0, 2, 1)", x.crowds(0, 2, 1), 39);
        check.due("crowds(0, 2, 5)", x.crowds(0, 2, 5), 75);
        check.due("crowds(1, 0, 3)", x.crowds(1, 0, 3), 14);
        check.due("crowds(0, 2, 0)", x.crowds(0, 2, 0), -1);
        check.due("crowds(0, 2, 6)", x.crowds(0, 2, 6), -1);
        check.due("crowds(3, 2, 1)", x.crowds(3, 2, 1), -1);
        check.due("crowds(0, 3, 1)", x.crowds(0, 3, 1), -1);
        check.due("crowds(0, 0, 2) if not told", Check.of(TEXT).crowds(0, 0, 2), 2);
    }

    private static void law(String law, int due) {
        check.due("stands=" + law, Check.of("road a 4;goer g a 1;wants g a 7;stands=" + law + ";").goer(0, 4), due);
    }

    private static void lawValues() {
        check.about("laws");
        law("1", 1);
        law("0042", 42);
        law("2+3*4", 14);
        law("2*3+4", 10);
        law("(2+3)*4", 20);
        law("10-3-2", 5);
        law("10-(3-2)", 9);
        law("99/10/3", 3);
        law("2*9/4", 4);
        law("9/4*2", 4);
        law("10+(1-8)/2", 7);
        law("10+(1-8)/(0-2)", 13);
        law("if 1<1 then 5 else 7", 7);
        law("if 1<2 then 5 else 7", 5);
        law("if 2<1 then 5 else 7", 7);
        law("if 2<1 then 5 else if 1<2 then 6 else if 1<2 then 7 else 8", 6);
        law("if 2<1 then 5 else if 2<1 then 6 else if 2<1 then 7 else if 2<1 then 8 else 9", 9);
        law("if 0-1<0 then 5 else 7", 5);
        law("5+1/0", 0);
        law("5/(want-7)", 0);
        law("0*(3/(1-1))+9", 0);
        law("if 1/0<2 then 5 else 6", 0);
        law("if 2<1/0 then 5 else 6", 0);
        law("if 1<2 then 5 else 1/0", 5);
        law("if 2<1 then 1/0 else 6", 6);
        law("if 2<1 then 5 else if 1<2 then 6 else 1/0", 6);
        law("if 1<2 then 5/0 else 6", 0);
        law("0/5+3", 3);
        law("if 9999*9999*9999<0 then 7 else 8", 7);
        law("if 9999*9999*9999+9999*9999*9999<0 then 7 else 8", 7);
        law("if 0-9999*9999*9999<1 then 7 else 8", 8);
        // -2147483648 by -1 stays what it is
        law("if (0-4096*4096*128)/(0-1)<0 then 7 else 8", 7);
        law("(1+2*(3+4*(5-6*(7-8*(9-10*(11-12))))))/100", 70);
        law("1+2*(1+2*(1+2*(1+2*(1+2*(1+2*(1+2*0))))))-100", 27);
        law("((((((1+2))))))", 3);
    }

    private static void lawVariables() {
        check.about("what laws look at");
        int[][] due = {{2, 2, 1}, {20, 5, 40}, {10, 5, 0}, {1, 9, 1}, {2, 1, 2}, {0, 0, 0}, {0, 1, 2}, {0, 0, 0}, {3, 3, 3}};
        String[] vars = {"seen", "want", "next", "wide", "here", "day", "which", "stood", "roads"};
        for (int v = 0; v < vars.length; v++) {
            BlinkerCross x = Check.of(TEXT + "stands=" + vars[v] + ";turns=" + vars[v] + ";keeps=" + vars[v] + "-1;");
            for (int g = 0; g < 3; g++) {
                check.due("stands=" + vars[v] + " of " + g, x.goer(g, 4), due[v][g]);
                check.due("turns=" + vars[v] + " of " + g, x.goer(g, 9), due[v][g]);
                check.due("keeps=" + vars[v] + "-1 of " + g, x.goer(g, 8), due[v][g] > 1 ? 1 : 0);
            }
        }
        // for CROWDS: of ann and the road s, by 4
        int[] crowds = {2, 30, 0, 9, 4, 0, 0, 0, 3};
        for (int v = 0; v < vars.length; v++) {
            check.due("crowds=" + vars[v], Check.of(TEXT + "crowds=" + vars[v] + ";").crowds(0, 2, 4), crowds[v]);
        }
        BlinkerCross x = Check.of(TEXT + "stands=3+which;crowds=stood+day;turns=day;");
        x.days(4);
        check.due("stood and day by the fourth day", x.crowds(1, 0, 1), 16 + 4);
        check.due("turns by the fourth day", x.goer(0, 9), 4);
    }

    private static void heldValues() {
        check.about("laws held");
        law("99", 99);
        law("100", 99);
        law("0-1", 0);
        BlinkerCross x = Check.of("road a 4;goer g a 1;crowds=here*40-50;turns=101;keeps=0-1;");
        check.due("crowds(0, 0, 1)", x.crowds(0, 0, 1), 0);
        check.due("crowds(0, 0, 3)", x.crowds(0, 0, 3), 70);
        check.due("crowds(0, 0, 4)", x.crowds(0, 0, 4), 99);
        check.due("goer(0, 9)", x.goer(0, 9), 100);
        check.due("goer(0, 8)", x.goer(0, 8), 0);
        BlinkerCross y = Check.of("road a 4;goer g a 1;turns=0-7;keeps=9999;stands=1;stands=2;");
        check.due("goer(0, 9)", y.goer(0, 9), 0);
        check.due("goer(0, 8)", y.goer(0, 8), 1);
        check.due("the last law", y.goer(0, 4), 2);
    }

    private static void flaps() {
        check.about("promise 11");
        BlinkerCross x = Check.of(TEXT + "keeps=1-day;");
        check.due("flap(0, 2)", x.flap(0, 2), false);
        check.due("flap(0, 0)", x.flap(0, 0), false);
        check.due("flap(0, 7)", x.flap(0, 7), false);
        check.due("flap(3, 1)", x.flap(3, 1), false);
        check.due("flap(-1, 1)", x.flap(-1, 1), false);
        check.due("count(9)", x.count(9), 0);
        check.due("flap(0, 6)", x.flap(0, 6), true);
        check.due("SIGHT", x.goer(0, 1), 6);
        check.due("as set", x.goer(0, 2), 6);
        check.due("seen", x.goer(0, 6), 3);
        check.due("CHOICE", x.goer(0, 3), 2);
        check.due("count(9)", x.count(9), 1);
        x.days(1);
        check.due("SIGHT", x.goer(0, 1), 5);
        check.due("SIGHT is so, not as set", x.flap(0, 5), true);
        check.due("as set", x.goer(0, 2), 5);
        x.flap(1, 4);
        check.due("as set, SIGHT is so", x.flap(1, 4), false);
        BlinkerCross y = Check.of(TEXT + "keeps=1-day;");
        y.days(1);
        check.due("as set, SIGHT is not so", y.flap(0, 2), true);
        check.due("SIGHT", y.goer(0, 1), 2);
    }

    private static void turns() {
        check.about("promise 12");
        BlinkerCross x = Check.of(TEXT);
        check.due("turn(0, 0)", x.turn(0, 0), false);
        check.due("turn(0, 3)", x.turn(0, 3), false);
        check.due("turn(0, -1)", x.turn(0, -1), false);
        check.due("turn(3, 0)", x.turn(3, 0), false);
        check.due("turn(-1, 1)", x.turn(-1, 1), false);
        check.due("count(9)", x.count(9), 0);
        check.due("turn(0, 2)", x.turn(0, 2), true);
        check.due("FACES", x.goer(0, 0), 2);
        check.due("sees", x.goer(0, 10), 5);
        check.due("CHOICE", x.goer(0, 3), 2);
        check.due("count(9)", x.count(9), 1);
    }

    private static void wishes() {
        check.about("promise 13");
        BlinkerCross x = Check.of(TEXT);
        check.due("wish(0, 0, 10)", x.wish(0, 0, 10), false);
        check.due("wish(0, 0, -1)", x.wish(0, 0, -1), false);
        check.due("wish(0, 0, 100)", x.wish(0, 0, 100), false);
        check.due("wish(3, 0, 1)", x.wish(3, 0, 1), false);
        check.due("wish(0, 3, 1)", x.wish(0, 3, 1), false);
        check.due("wish(-1, 0, 1)", x.wish(-1, 0, 1), false);
        check.due("count(9)", x.count(9), 0);
        check.due("wish(0, 0, 20)", x.wish(0, 0, 20), true);
        check.due("want(0, 0)", x.want(0, 0), 20);
        check.due("of alike ones that seen first", x.goer(0, 3), 0);
        check.due("wish(0, 0, 0)", x.wish(0, 0, 0), true);
        check.due("wish(0, 0, 99)", x.wish(0, 0, 99), true);
        check.due("MISSED", x.goer(0, 5), 0);
        check.due("count(9)", x.count(9), 3);
    }

    private static void daysGoBy() {
        check.about("promise 14");
        BlinkerCross x = Check.of(TEXT);
        check.due("days(0)", x.days(0), 0);
        check.due("count(9)", x.count(9), 0);
        check.due("days(-1)", x.days(-1), -1);
        check.due("days(61)", x.days(61), -1);
        check.due("days(60)", x.days(60), 60);
        check.due("days(2)", x.days(2), 62);
        check.due("days(0)", x.days(0), 62);
        check.due("count(9)", x.count(9), 2);
        check.due("stood", x.goer(0, 7), 124);
        check.due("gained(0)", x.gained(0), 62 * 18);
        check.due("gained(1)", x.gained(1), 62 * 4);
        check.due("gained(2)", x.gained(2), 62 * 38);
        BlinkerCross y = Check.of("road a 1;goer g a 1;wants g a 5;crowds=9;");
        y.days(3);
        check.due("below 0", y.gained(0), -12);
    }

    private static void sightsByDays() {
        check.about("SIGHT by days");
        BlinkerCross x = Check.of("road a 1;road b 1;road c 1;goer g a 3;goer h b 1;keeps=if day<4 then 1 else 0;");
        int[] sight = {3, 2, 1, 1, 1, 2, 3, 3, 3};
        for (int day = 0; day < sight.length; day++) {
            check.due("SIGHT on day " + day, x.goer(0, 1), sight[day]);
            check.due("SIGHT of the other on day " + day, x.goer(1, 1), 1);
            check.due("as told", x.goer(0, 2), 3);
            x.days(1);
        }
        x.undo();
        x.flap(0, 5);
        x.days(1);
        check.due("as set since, at most", x.goer(0, 1), 5);
    }

    /** LOTs of the seeds 7 and 9999, worked out outside: a head turns if its LOT is less than TURNS. */
    private static void lots() {
        check.about("LOT");
        int[][] days = {{67, 40, 73, 40, 42}, {60, 75, 15, 42, 80}};
        for (int turns = 0; turns <= 100; turns++) {
            BlinkerCross x = Check.of("road a 1;road b 1;road c 1;goer g a 1;goer h b 1;goer i c 1;goer j a 1;goer k b 1;"
                    + "seed 7;turns=" + turns + ";");
            int[] face = {0, 1, 2, 0, 1};
            for (int[] day : days) {
                x.days(1);
                for (int g = 0; g < 5; g++) {
                    face[g] = day[g] < turns ? (face[g] + 1) % 3 : face[g];
                    check.due("FACE of " + g + " with turns " + turns, x.goer(g, 0), face[g]);
                }
            }
        }
        int[] fifth = {67, 5, 74, 31, 11};
        for (int g = 0; g < 5; g++) {
            for (int more = 0; more < 2; more++) {
                BlinkerCross x = Check.of("road a 1;road b 1;goer g a 1;goer h a 1;goer i a 1;goer j a 1;goer k a 1;"
                        + "seed 9999;turns=if day<5 then 0 else " + (fifth[g] + more) + ";");
                x.days(6);
                check.due("FACE of " + g + " behind day 5", x.goer(g, 0), more);
            }
        }
    }

    /** All by how the day began: a turned head changes nobody's crowd on that day. */
    private static void crowdOfTheMorning() {
        check.about("a day");
        BlinkerCross x = Check.of("road a 1;road b 1;goer g a 1;goer h a 1;wants g a 9;wants h a 9;wants g b 5;"
                + "wants h b 5;turns=if which<1 then 100 else 0;stands=here;");
        x.days(1);
        check.due("gained(0)", x.gained(0), 7);
        check.due("gained(1)", x.gained(1), 7);
        check.due("stood(1)", x.goer(1, 7), 2);
        check.due("CHOICE", x.goer(0, 3), 1);
        x.days(1);
        check.due("gained(0)", x.gained(0), 7 + 4);
        check.due("gained(1)", x.gained(1), 7 + 8);
        check.due("stood(1)", x.goer(1, 7), 3);
    }

    private static void undone() {
        check.about("promise 15");
        BlinkerCross x = Check.of(TEXT + "keeps=1;turns=50;seed 1;");
        int[] before = snapshot(x);
        check.due("undo()", x.undo(), false);
        x.flap(0, 3);
        int[] flapped = snapshot(x);
        x.days(5);
        int[] gone = snapshot(x);
        x.turn(1, 1 - x.goer(1, 0) / 2);
        x.wish(2, 2, 77);
        check.due("count(9)", x.count(9), 4);
        x.undo();
        check.due("want(2, 2)", x.want(2, 2), 0);
        x.undo();
        same("undo of turn", x, gone);
        x.undo();
        same("undo of days", x, flapped);
        check.due("undo()", x.undo(), true);
        same("undo of flap", x, before);
        check.due("undo()", x.undo(), false);
        BlinkerCross y = Check.of(TEXT);
        for (int i = 1; i <= 45; i++) {
            y.wish(0, 0, 50 + i);
            check.due("count(9)", y.count(9), Math.min(i, 40));
        }
        for (int i = 44; i >= 5; i--) {
            check.due("undo()", y.undo(), true);
            check.due("want(0, 0)", y.want(0, 0), 50 + i);
        }
        check.due("the 41st undo()", y.undo(), false);
        check.due("want(0, 0)", y.want(0, 0), 55);
    }

    private static int[] snapshot(BlinkerCross x) {
        int[] out = new int[3 * 12 + 9 + 1];
        int n = 0;
        for (int g = 0; g < 3; g++) {
            for (int what = 0; what <= 10; what++) {
                out[n++] = x.goer(g, what);
            }
            out[n++] = x.gained(g);
            for (int r = 0; r < 3; r++) {
                out[n++] = x.want(g, r);
            }
        }
        out[n] = x.count(2);
        return out;
    }

    private static void same(String what, BlinkerCross x, int[] due) {
        int[] got = snapshot(x);
        for (int i = 0; i < due.length; i++) {
            check.due(what + ", number " + i, got[i], due[i]);
        }
    }

    private static void held() {
        check.about("promises 36 and 37");
        BlinkerCross x = Check.of(TEXT + "turns=50;");
        check.due("restore(0)", x.restore(0), false);
        check.due("hold(-1)", x.hold(-1), false);
        check.due("hold(3)", x.hold(3), false);
        check.due("hold(0)", x.hold(0), true);
        int[] first = snapshot(x);
        x.days(3);
        check.due("hold(2)", x.hold(2), true);
        int[] second = snapshot(x);
        x.tell(0, 1, true);
        x.feed(1, 2, 3, 4, 5);
        x.wish(0, 0, 98);
        check.due("count(11)", x.count(11), 2);
        check.due("restore(1)", x.restore(1), false);
        check.due("restore(3)", x.restore(3), false);
        check.due("restore(-1)", x.restore(-1), false);
        check.due("count(9)", x.count(9), 2);
        check.due("restore(0)", x.restore(0), true);
        same("restore(0)", x, first);
        check.due("nothing to undo", x.undo(), false);
        check.due("what is TOLD stays", x.count(10), 1);
        check.due("the tape stays", x.count(8), 20);
        check.due("count(11)", x.count(11), 2);
        x.days(1);
        check.due("restore(2)", x.restore(2), true);
        same("restore(2)", x, second);
        check.due("restore(0)", x.restore(0), true);
        same("restore(0) again", x, first);
        x.wish(0, 0, 1);
        check.due("hold(0)", x.hold(0), true);
        x.wish(0, 0, 2);
        x.restore(0);
        check.due("held anew", x.want(0, 0), 1);
        BlinkerCross y = new BlinkerCross();
        y.days(7);
        y.hold(1);
        y.days(1);
        check.due("without a text", y.restore(1), true);
        check.due("count(2)", y.count(2), 7);
    }

    private static void counts() {
        check.about("promise 38");
        BlinkerCross x = Check.of(TEXT);
        int[] due = {3, 3, 0, 5, 12, 60, 6, 7, 0, 0, 0, 0, 0, 0, 5, 5};
        for (int what = 0; what < due.length; what++) {
            check.due("count(" + what + ")", x.count(what), due[what]);
        }
        check.due("count(-1)", x.count(-1), -100000);
        check.due("count(16)", x.count(16), -100000);
        check.due("count(MIN)", x.count(Integer.MIN_VALUE), -100000);
        x.days(2);
        x.flap(0, 1);
        x.tell(1, 1, true);
        x.tell(1, 2, true);
        x.hold(0);
        x.hold(1);
        x.feed(1, 2, 3, 4, 5);
        int[] then = {3, 3, 2, 4, 22, 10 - 1 + 4 + 39, 7, 7, 20, 2, 2, 2, 10, 120, 4, 4};
        for (int what = 0; what < then.length; what++) {
            check.due("count(" + what + ")", x.count(what), then[what]);
        }
        BlinkerCross y = Check.of("road a 1;road b 1;road c 1;goer g b 2;goer h c 1;keeps=1;");
        y.days(1);
        check.due("SIGHTS now", y.count(14), 2);
        check.due("SIGHTS as told", y.count(15), 3);
        check.due("chosen", y.count(6), 6);
        check.due("seen", y.count(7), 6);
    }
}
