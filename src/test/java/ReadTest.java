/** Promises 1 to 5: a new object, the tape, and the faults of texts with their places. */
public final class ReadTest {
    private static final Check check = new Check();

    public static void main(String[] args) {
        newObject();
        tape();
        tokens();
        syntax();
        room();
        namesAndNumbers();
        faultChangesNothingElse();
        textInPlaceOfTheOneAhead();
        check.end();
    }

    private static void newObject() {
        check.about("promise 1");
        BlinkerCross x = new BlinkerCross();
        for (int what = 0; what <= 15; what++) {
            check.due("count(" + what + ")", x.count(what), 0);
        }
        check.due("place()", x.place(), -1);
        check.due("road(0, 0)", x.road(0, 0), -1);
        check.due("goer(0, 0)", x.goer(0, 0), -1);
        check.due("undo()", x.undo(), false);
    }

    private static void tape() {
        check.about("promises 2 and 3");
        BlinkerCross x = new BlinkerCross();
        for (int i = 1; i <= 100; i++) {
            check.due("feed " + i, x.feed(0, -1, i, 0x20202020, 5), 20 * i);
        }
        check.due("feed 101", x.feed(1, 2, 3, 4, 5), -1);
        check.due("count(8)", x.count(8), 2000);
        check.due("back(-1)", x.back(-1), -1);
        check.due("back(2001)", x.back(2001), -1);
        check.due("back(MIN)", x.back(Integer.MIN_VALUE), -1);
        check.due("back(MAX)", x.back(Integer.MAX_VALUE), -1);
        check.due("back(0)", x.back(0), 2000);
        check.due("back(19)", x.back(19), 1981);
        check.due("feed with 19 free", x.feed(1, 2, 3, 4, 5), -1);
        check.due("back(1)", x.back(1), 1980);
        check.due("feed with 20 free", x.feed(1, 2, 3, 4, 5), 2000);
        check.due("back(2000)", x.back(2000), 0);
        check.due("back(1)", x.back(1), -1);
        // the highest byte comes first: "road" and " zz9" and ";   "
        x.feed(0x726f6164, 0x207a7a39, 0x3b202020, 0x20202020, 0x20202020);
        check.due("read()", x.read(), 0);
        check.due("road(0, 0)", x.road(0, 0), 9);
        check.due("count(8)", x.count(8), 0);
    }

    private static void fault(String text, int number, int place) {
        BlinkerCross x = new BlinkerCross();
        Check.feed(x, text);
        check.due("count(8) with \"" + text + "\"", x.count(8), text.length());
        check.due("read() of \"" + text + "\"", x.read(), number);
        check.due("place() of \"" + text + "\"", x.place(), place);
        check.due("count(8)", x.count(8), 0);
    }

    private static void fine(String text) {
        fault(text, 0, -1);
    }

    private static void tokens() {
        check.about("tokens");
        fine("");
        fine(" \t\r\n ");
        fine("road a 1;");
        fine("road\ta\r1\n;");
        fine("road a1;road b2;");
        fine("road abcdefgh 0001;");
        fine("road roadx 1;road ifs 2;goer roa roadx 3;");
        fine("stands=if seen<2then 3else 4;");
        fine("seed 9999;seed 0;");
        fault("road abcdefghi 1;", 1, 5);
        fault("road a 00001;", 1, 7);
        fault("road A 1;", 1, 5);
        fault("roada 1;", 1, 0);
        fault("road a 1,", 1, 8);
        fault("road a 1;!", 1, 9);
        fault("\0", 1, 0);
        fault("road a\u00a01;", 1, 6);
        fault("road a\u000b1;", 1, 6);
        for (String word : new String[] {"road", "goer", "wants", "stands", "crowds", "keeps", "turns", "seed", "if",
            "then", "else", "seen", "want", "next", "wide", "here", "day", "which", "stood", "roads"}) {
            fault("road " + word + " 1;", 1, 5);
            fine("road x" + word + " 1;");
        }
    }

    private static void syntax() {
        check.about("syntax");
        fault("x", 1, 0);
        fault(";", 1, 0);
        fault("7", 1, 0);
        fault("if", 1, 0);
        fault("road", 1, 4);
        fault("road  ", 1, 6);
        fault("road a", 1, 6);
        fault("road a 1", 1, 8);
        fault("road a ;", 1, 7);
        fault("road 1 a;", 1, 5);
        fault("road a 1 2;", 1, 9);
        fault("road a 1; ;", 1, 10);
        fault("goer a 1;", 1, 7);
        fault("wants a b;", 1, 9);
        fault("seed a;", 1, 5);
        fault("seed ;", 1, 5);
        fault("seed -1;", 1, 5);
        fault("stands 1;", 1, 7);
        fault("stands=;", 1, 7);
        fault("stands=-1;", 1, 7);
        fault("stands=1+;", 1, 9);
        fault("stands=1 2;", 1, 9);
        fault("stands=1<2;", 1, 8);
        fault("stands=a;", 1, 7);
        fault("stands=();", 1, 8);
        fault("stands=(1;", 1, 9);
        fault("stands=1);", 1, 8);
        fault("stands=(1<2);", 1, 9);
        fault("stands=1+if 1<2 then 3 else 4;", 1, 9);
        fault("stands=(if 1<2 then 3 else 4);", 1, 8);
        fault("stands=if 1 then 3 else 4;", 1, 12);
        fault("stands=if 1<2<3 then 3 else 4;", 1, 13);
        fault("stands=if 1<2 then if 1<2 then 3 else 4 else 5;", 1, 19);
        fault("stands=if 1<2 then 3;", 1, 20);
        fault("stands=if 1<2 then 3 else;", 1, 25);
        fault("stands=if 1<2 else 3;", 1, 14);
        fine("stands=((1+2)*(3-4))/(5);crowds=0;keeps=day;turns=if stood<3 then 1 else if 1<2 then 2 else 3;");
    }

    private static void room() {
        check.about("room");
        String roads = "road a 1;road b 1;road c 1;road d 1;road e 1;road f 1;";
        fine(roads);
        fault(roads + " road", 2, roads.length() + 1);
        fault(roads + "road a 99;", 2, roads.length());
        fault("road a 0;" + roads, 2, 9 + 45);
        String goers = "road a 1;goer p a 1;goer q a 1;goer r a 1;goer s a 1;goer t a 1;";
        fine(goers);
        fault(goers + "goer u a 1;", 2, goers.length());
        String wants = "road a 1;goer p a 1;" + "wants p a 1;".repeat(30);
        fine(wants);
        fault(wants + "wants p a 1;", 2, wants.length());
        String ifs = "keeps=" + "if 1<2 then 3 else ".repeat(4);
        fine(ifs + "5;" + ifs + "5;");
        fault(ifs + "if 1<2 then 3 else 5;", 2, ifs.length());
        fault("seed 1;" + ifs + "5;" + ifs + "if", 2, 7 + 2 * ifs.length() + 2);
        fine("keeps=((((((1))))))+((((((2))))));");
        fault("keeps=(((((((1)))))));", 2, 12);
        fault("keeps=(1+(1+(1+(1+(1+(1+(", 2, 24);
        fault("keeps=1(((((((", 1, 7);
        // = and ; with 199 numbers and 198 signs: 399 tokens and the word ahead
        String law = "keeps=" + "1+".repeat(198);
        fine(law + "1;");
        fault(law + "1;;", 1, law.length() + 2);
        fault(law + "1+", 1, law.length() + 2);
        fault(law + "1;seed 1;", 2, law.length() + 2);
        fault(law + "1;x", 1, law.length() + 2);
        fault(law + "1;!", 1, law.length() + 2);
        fault(law + "1;   ", 0, -1);
        fault(law + "1+1;", 2, law.length() + 2);
        fault(law + "1+;", 1, law.length() + 2);
        fault(law + "1", 1, law.length() + 1);
        fault(law + "1+1;!", 2, law.length() + 2);
    }

    private static void namesAndNumbers() {
        check.about("names and numbers");
        fault("road a 1;road a 0;", 3, 14);
        fault("road a 1;goer a b 9;", 3, 14);
        fault("road a 1;goer b a 1;goer b c 1;", 3, 25);
        fault("road a 1;goer b a 1;road b 1;", 3, 25);
        fault("goer a b 1;", 4, 7);
        fault("goer a a 1;", 4, 7);
        fault("goer a b 1;road b 1;", 4, 7);
        fault("road a 1;goer b a 1;goer c b 1;", 4, 27);
        fault("wants a b 1;", 4, 6);
        fault("road a 1;wants a a 1;", 4, 15);
        fault("road a 1;goer b a 1;wants b b 1;", 4, 28);
        fault("road a 1;goer b a 1;wants a b 1;", 4, 26);
        fault("road a 1;goer b a 1;wants b a 100;", 5, 30);
        fine("road a 1;goer b a 1;wants b a 99;wants b a 0;");
        fault("road a 0;", 5, 7);
        fault("road a 10;", 5, 7);
        fine("road a 9;");
        fault("road a 1;goer b a 0;", 5, 18);
        fault("road a 1;goer b a 7;", 5, 18);
        fine("road a 1;goer b a 6;");
        fault("road a 0;road a 1;", 5, 7);
        // faults of syntax and room come ahead, wherever they are
        fault("road a 0;road", 1, 13);
        fault("road a 1;road a 1;keeps=(((((((", 2, 30);
    }

    private static void faultChangesNothingElse() {
        check.about("a text with a fault");
        BlinkerCross x = Check.of("road a 4;goer b a 1;wants b a 7;seed 3;");
        x.days(2);
        x.tell(0, 0, true);
        x.hold(1);
        Check.feed(x, "road a 0;");
        check.due("read()", x.read(), 5);
        check.due("place()", x.place(), 7);
        int[] due = {1, 1, 2, 1, 0, 6, 1, 1, 0, 1, 1, 1, 2, 12, 1, 1};
        for (int what = 0; what < due.length; what++) {
            check.due("count(" + what + ")", x.count(what), due[what]);
        }
        check.due("undo()", x.undo(), true);
        check.due("place()", x.place(), 7);
        Check.feed(x, "road c 5;");
        check.due("read()", x.read(), 0);
        check.due("place()", x.place(), -1);
    }

    private static void textInPlaceOfTheOneAhead() {
        check.about("a text in place of another");
        BlinkerCross x = Check.of("road a 4;road c 4;goer b a 1;wants b c 7;seed 3;keeps=1;turns=100;stands=9;crowds=3;");
        x.days(2);
        x.wish(0, 0, 50);
        x.tell(0, 0, true);
        x.hold(1);
        Check.feed(x, "road q 2;goer w q 3;");
        check.due("read()", x.read(), 0);
        int[] due = {1, 1, 0, 1, 0, -1, 1, 1, 0, 0, 0, 0, 0, 0, 3, 3};
        for (int what = 0; what < due.length; what++) {
            check.due("count(" + what + ")", x.count(what), due[what]);
        }
        check.due("undo()", x.undo(), false);
        check.due("restore(1)", x.restore(1), false);
        check.due("want(0, 0)", x.want(0, 0), 0);
        check.due("goer(0, 8)", x.goer(0, 8), 0);
        check.due("goer(0, 9)", x.goer(0, 9), 0);
        // the seed is 0 again: LOT 69, not the 67 of seed 7
        Check.feed(x, "seed 7;");
        x.read();
        Check.feed(x, "road a 1;road b 1;goer p a 1;turns=69;");
        x.read();
        x.days(1);
        check.due("seed if not told", x.goer(0, 0), 0);
        check.due("read() of nothing", x.read(), 0);
        check.due("count(0)", x.count(0), 0);
        check.due("count(1)", x.count(1), 0);
    }
}
