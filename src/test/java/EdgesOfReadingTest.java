import java.util.Arrays;
import java.util.List;

/** Boundary cases of promises 1 to 5: a new object, the tape, texts with their TOKENS, TELLs and FAULTS. */
public final class EdgesOfReadingTest {
    private static final Check check = new Check();

    private static final String[] WORDS = {"road", "goer", "wants", "stands", "crowds", "keeps", "turns", "seed", "if",
        "then", "else", "seen", "want", "next", "wide", "here", "day", "which", "stood", "roads"};
    private static final String VARS = "seen want next wide here day which stood roads";
    private static final String SIX_ROADS = "road a 1;road b 2;road c 3;road d 4;road e 5;road f 6;";
    private static final String FIVE_GOERS = "goer p a 1;goer q a 1;goer r a 1;goer s a 1;goer t a 1;";
    /** Two goers, the first of whom sees a road that is wanted, and turns, keeps, stands and gains. */
    private static final String BUSY = "road a 4;road b 9;goer p a 2;goer q b 1;wants p b 7;wants q a 3;seed 33;"
            + "stands=9;crowds=3;keeps=1-which;turns=1;";

    public static void main(String[] args) throws ReflectiveOperationException {
        Edges.run(EdgesOfReadingTest.class, check, 1, 5);
    }

    // ---- promise 1: a new object

    static void p01NoRoadsNoGoers() {
        BlinkerCross x = new BlinkerCross();
        for (int what = 0; what <= 15; what++) {
            check.due("count(" + what + ")", x.count(what), 0);
        }
        for (int what = 0; what <= 10; what++) {
            check.due("road(0, " + what + ")", x.road(0, what), -1);
            check.due("goer(0, " + what + ")", x.goer(0, what), -1);
        }
        check.due("gained(0)", x.gained(0), -100000);
        check.due("want(0, 0)", x.want(0, 0), -1);
        check.due("crowds(0, 0, 1)", x.crowds(0, 0, 1), -1);
        check.due("place()", x.place(), -1);
    }

    static void p01NobodyToDoAnythingWith() {
        BlinkerCross x = new BlinkerCross();
        check.due("flap(0, 1)", x.flap(0, 1), false);
        check.due("turn(0, 0)", x.turn(0, 0), false);
        check.due("wish(0, 0, 1)", x.wish(0, 0, 1), false);
        check.due("undo()", x.undo(), false);
        check.due("restore(0)", x.restore(0), false);
        check.due("forget()", x.forget(), 0);
        check.due("who(0, 0)", x.who(0, 0), 0);
        check.due("who(0, 1)", x.who(0, 1), 0);
        check.due("look(0, 0)", x.look(0, 0), -2);
        check.due("days(0)", x.days(0), 0);
        check.due("days(60)", x.days(60), 60);
        check.due("undo()", x.undo(), true);
        check.due("count(2)", x.count(2), 0);
    }

    static void p01NothingToThinkOf() {
        BlinkerCross x = new BlinkerCross();
        check.due("plan(0, -1)", x.plan(0, -1), 0);
        check.due("plan(0, -2)", x.plan(0, -2), 0);
        check.due("plan(0, 0)", x.plan(0, 0), -1);
        check.due("rests()", x.rests(), 1);
        check.due("bestRest(-1)", x.bestRest(-1), 0);
        check.due("bestRest(0)", x.bestRest(0), -100000);
        check.due("bestGiving(-1)", x.bestGiving(-1), 0);
        check.due("bestGiving(0)", x.bestGiving(0), -100000);
        check.due("settles()", x.settles(), 0);
        check.due("oneEach(-1)", x.oneEach(-1), 0);
        check.due("oneEach(0)", x.oneEach(0), -1);
        check.due("closing()", x.closing(), 0);
        check.due("enough(0, 0)", x.enough(0, 0), -1);
        check.due("open(0)", x.open(0), -1);
        check.due("crowded(0)", x.crowded(0), -2);
        check.due("crowded(1)", x.crowded(1), -2);
        check.due("same(0)", x.same(0), -1);
        check.due("then(0, 0, 0)", x.then(0, 0, 0), -1);
        check.due("gainedIn(0, 0)", x.gainedIn(0, 0), -100000);
        check.due("year(0, 0, 0, 1)", x.year(0, 0, 0, 1), -1);
    }

    static void p01NothingOfAnotherObjectIsInIt() {
        BlinkerCross old = Check.of(BUSY);
        old.days(3);
        old.tell(0, 1, true);
        old.hold(0);
        old.feed(1, 2, 3, 4, 5);
        BlinkerCross x = new BlinkerCross();
        for (int what = 0; what <= 15; what++) {
            check.due("count(" + what + ")", x.count(what), 0);
        }
        check.due("restore(0)", x.restore(0), false);
        check.due("undo()", x.undo(), false);
        Check.feed(x, "road z 8;");
        x.read();
        check.due("count(0) of the other one", old.count(0), 2);
        check.due("count(8) of the other one", old.count(8), 20);
    }

    /** An object is used for at most 512 calls: the last of these answers as the first ones do. */
    static void p01FiveHundredAndTwelveCalls() {
        BlinkerCross x = new BlinkerCross();
        Check.feed(x, "road a 1;goer g a 1;");
        int calls = 3;
        check.due("read()", x.read(), 0);
        while (calls < 510) {
            calls++;
            check.due("call " + calls + ": wish", x.wish(0, 0, 1 + calls % 2), true);
        }
        check.due("call 511: count(9)", x.count(9), 40);
        check.due("call 512: undo()", x.undo(), true);
    }

    // ---- promise 2: feed

    private static int feedWith(BlinkerCross x, int at, int odd) {
        byte[] bytes = new byte[20];
        Arrays.fill(bytes, (byte) 32);
        if (at >= 0) {
            bytes[at] = (byte) odd;
        }
        return x.feed(Check.word(bytes, 0), Check.word(bytes, 4), Check.word(bytes, 8), Check.word(bytes, 12),
                Check.word(bytes, 16));
    }

    static void p02TheHighestByteOfAFirst() {
        for (int odd : new int[] {'!', 128, 233, 255, 0}) {
            for (int at = 0; at < 20; at++) {
                BlinkerCross x = new BlinkerCross();
                check.due("feed", feedWith(x, at, odd), 20);
                check.due("read()", x.read(), 1);
                check.due("place() of byte " + odd + " at " + at, x.place(), at);
            }
        }
    }

    static void p02TheyComeBehindTheTape() {
        BlinkerCross x = new BlinkerCross();
        for (int i = 0; i < 5; i++) {
            feedWith(x, -1, 0);
        }
        check.due("feed", feedWith(x, 7, '!'), 120);
        check.due("feed", feedWith(x, 3, '!'), 140);
        check.due("read()", x.read(), 1);
        check.due("place()", x.place(), 107);
    }

    static void p02UpTo2000() {
        BlinkerCross x = new BlinkerCross();
        for (int i = 1; i <= 100; i++) {
            check.due("feed number " + i, feedWith(x, -1, 0), 20 * i);
        }
        check.due("count(8)", x.count(8), 2000);
        check.due("read()", x.read(), 0);
    }

    private static BlinkerCross full() {
        BlinkerCross x = new BlinkerCross();
        for (int i = 0; i < 100; i++) {
            feedWith(x, -1, 0);
        }
        return x;
    }

    static void p02NoneIfItWouldHaveMoreThan2000() {
        BlinkerCross x = full();
        check.due("feed with 2,000", feedWith(x, 0, '!'), -1);
        check.due("feed with 2,000, again", feedWith(x, 19, '!'), -1);
        for (int free = 1; free <= 19; free++) {
            x.back(1);
            check.due("feed with " + (2000 - free), feedWith(x, 0, '!'), -1);
            check.due("count(8)", x.count(8), 2000 - free);
        }
        check.due("back(1)", x.back(1), 1980);
        check.due("feed with 1980", feedWith(x, -1, 0), 2000);
    }

    static void p02NothingComesThen() {
        BlinkerCross x = full();
        x.back(19);
        feedWith(x, 0, '!');
        check.due("count(8)", x.count(8), 1981);
        check.due("read()", x.read(), 0);
        check.due("place()", x.place(), -1);
    }

    static void p02AFullTapeIsReadToItsEnd() {
        for (int at : new int[] {1980, 1998, 1999}) {
            BlinkerCross x = full();
            x.back(20);
            feedWith(x, at - 1980, '!');
            check.due("read()", x.read(), 1);
            check.due("place()", x.place(), at);
        }
        BlinkerCross y = full();
        y.back(20);
        Check.feed(y, "road a 7;goer g a 1;");
        check.due("read()", y.read(), 0);
        check.due("WIDE", y.road(0, 0), 7);
        check.due("GOERS", y.count(1), 1);
        BlinkerCross z = full();
        z.back(20);
        Check.feed(z, "road a 7;goer g a 01");
        check.due("read()", z.read(), 1);
        check.due("place(): the text's end", z.place(), 2000);
    }

    static void p02FromNothingAgainBehindARead() {
        BlinkerCross x = full();
        x.read();
        check.due("feed", feedWith(x, -1, 0), 20);
        check.due("read()", x.read(), 0);
        feedWith(x, 5, '!');
        x.read();
        check.due("feed behind a FAULT", feedWith(x, -1, 0), 20);
    }

    // ---- promise 3: back

    static void p03TheLastOnesGo() {
        BlinkerCross x = new BlinkerCross();
        Check.feed(x, "road a 3;!!!!!!!!!!!road b 5;!!!!!!!!!!!");
        check.due("back(11)", x.back(11), 29);
        check.due("back(20)", x.back(20), 9);
        check.due("read()", x.read(), 0);
        check.due("WIDE", x.road(0, 0), 3);
        check.due("ROADS", x.count(0), 1);
    }

    static void p03NoneGo() {
        BlinkerCross x = new BlinkerCross();
        check.due("back(0) of nothing", x.back(0), 0);
        feedWith(x, -1, 0);
        check.due("back(0)", x.back(0), 20);
        check.due("count(8)", x.count(8), 20);
    }

    static void p03AllGo() {
        BlinkerCross x = new BlinkerCross();
        feedWith(x, 0, '!');
        feedWith(x, 0, '!');
        check.due("back(40)", x.back(40), 0);
        check.due("read()", x.read(), 0);
        BlinkerCross y = full();
        check.due("back(2000)", y.back(2000), 0);
        check.due("count(8)", y.count(8), 0);
    }

    static void p03NoneIfItHasNotSoMany() {
        BlinkerCross x = new BlinkerCross();
        check.due("back(1) of nothing", x.back(1), -1);
        feedWith(x, 19, '!');
        for (int n : new int[] {21, 22, 40, 2000, 2001, Integer.MAX_VALUE}) {
            check.due("back(" + n + ")", x.back(n), -1);
            check.due("count(8)", x.count(8), 20);
        }
        x.read();
        check.due("place(): nothing went", x.place(), 19);
        check.due("back(1) behind read()", x.back(1), -1);
    }

    static void p03NoneIfBelow0() {
        BlinkerCross x = new BlinkerCross();
        check.due("back(-1) of nothing", x.back(-1), -1);
        feedWith(x, 19, '!');
        for (int n : new int[] {-1, -2, -20, -1980, Integer.MIN_VALUE, Integer.MIN_VALUE + 1}) {
            check.due("back(" + n + ")", x.back(n), -1);
            check.due("count(8)", x.count(8), 20);
        }
        x.read();
        check.due("place(): nothing went", x.place(), 19);
    }

    static void p03WhatWentIsWrittenOver() {
        BlinkerCross x = new BlinkerCross();
        Check.feed(x, "road a 1;road a 1;");
        x.back(9);
        Check.feed(x, "road b 6;");
        check.due("read()", x.read(), 0);
        check.due("WIDE", x.road(1, 0), 6);
    }

    // ---- promise 4: read, and promise 5 wherever there is a FAULT: its place

    /** Of a text in which ^ stands ahead of the FAULT's place, and is not of the text. */
    private static void fault(int number, String marked) {
        String text = marked.replace("^", "");
        BlinkerCross x = new BlinkerCross();
        Check.feed(x, text);
        check.due("read() of \"" + text + "\"", x.read(), number);
        check.due("place() of \"" + text + "\"", x.place(), marked.indexOf('^'));
    }

    private static void fine(String text) {
        fault(0, text);
    }

    static void p04NoTellAtAll() {
        fine("");
        fine(" ");
        fine("\t\n\r ".repeat(500));
        BlinkerCross x = new BlinkerCross();
        check.due("read() of no tape", x.read(), 0);
        check.due("place()", x.place(), -1);
    }

    /** Whatever byte stands within a NAME: a letter makes it longer, a blank or a digit ends it. */
    static void p04EachByteWithinAName() {
        for (int b = 0; b < 256; b++) {
            char c = (char) b;
            if (c >= 'a' && c <= 'z') {
                fault(0, "road x" + c + "y 1;");
            } else if (c == 9 || c == 10 || c == 13 || c == 32 || c >= '0' && c <= '9') {
                fault(1, "road x" + c + "^y 1;");
            } else {
                byteFault(1, "road x" + c + "y 1;", 6);
            }
        }
    }

    /** Whatever byte stands within an INT: a digit makes it longer, a blank ends it. */
    static void p04EachByteWithinAnInt() {
        for (int b = 0; b < 256; b++) {
            char c = (char) b;
            if (c >= '0' && c <= '9') {
                fault(0, "seed 1" + c + "2;");
            } else if (c == 9 || c == 10 || c == 13 || c == 32 || c == ';') {
                fault(1, "seed 1" + c + "^2;");
            } else {
                byteFault(1, "seed 1" + c + "2;", 6);
            }
        }
    }

    /** Whatever byte stands between two numbers of a law: a SIGN or not. */
    static void p04EachByteAsASign() {
        for (int b = 0; b < 256; b++) {
            char c = (char) b;
            boolean sign = c == '+' || c == '-' || c == '*' || c == '/';
            boolean blank = c == 9 || c == 10 || c == 13 || c == 32;
            if (sign || blank) {
                fault(sign ? 0 : 1, "keeps=1 " + c + (sign ? "" : "^") + " 2;".substring(sign ? 0 : 1));
            } else if (c == ';') {
                fault(1, "keeps=1 ; ^2;");
            } else {
                byteFault(1, "keeps=1 " + c + " 2;", 8);
            }
        }
    }

    /** As fault, for texts in which ^ itself may stand. */
    private static void byteFault(int number, String text, int place) {
        BlinkerCross x = new BlinkerCross();
        Check.feed(x, text);
        check.due("read() of \"" + text + "\"", x.read(), number);
        check.due("place() of \"" + text + "\"", x.place(), place);
    }

    static void p04BlanksBetweenOrNot() {
        fine("road a1;road b2;goer p a3;wants p b99;seed9999;stands=if seen<1then 2else 3;crowds=(1);keeps=1+2;");
        for (String gap : new String[] {" ", "\t", "\n", "\r", "\r\n", " \t\n\r", "          "}) {
            fine(gap + ("road a 1 ; goer p a 1 ; wants p a 9 ; seed 7 ; keeps = if seen < 1 then 2 else ( 3 + 4 ) "
                    + "* 5 - 6 / 7 ;").replace(" ", gap) + gap);
        }
    }

    static void p04TheLongestTokenThatCanBe() {
        fault(1, "^roada 1;");
        fault(1, "^roads 1;");
        fault(1, "^seeds 1;");
        fault(1, "keeps=^seenx;");
        fault(1, "keeps=^ifseen<1then 2else 3;");
        fault(1, "keeps=if 1<2 ^thenx;");
        fault(1, "keeps=if 1<2 then 3 ^elseif 1<2 then 3 else 4;");
        fault(1, "keeps=seen^2;");
        fine("keeps=if seen<want then next else if wide<here then day else which;");
        fine("road roada 1;road roadsx1;");
    }

    static void p04NamesOfEightLettersAtMost() {
        fine("road a 1;");
        fine("road z 1;");
        fine("road abcdefgh 1;");
        fault(1, "road ^abcdefghi 1;");
        fault(1, "road ^abcdefghijklmnopqrstuvwxyz 1;");
        fault(1, "road ^" + "a".repeat(1500) + " 1;");
        fine("road abcdefgh 1;goer stuvwxyz abcdefgh 1;wants stuvwxyz abcdefgh 1;");
        fault(1, "road abcdefgh 1;goer ^stuvwxyza abcdefgh 1;");
        fault(1, "road abcdefgh 1;goer stuvwxyz ^abcdefghi 1;");
        fault(1, "road abcdefgh 1;goer stuvwxyz abcdefgh 1;wants ^stuvwxyza abcdefgh 1;");
        fault(1, "^abcdefghi");
    }

    static void p04NamesDifferInEachLetter() {
        fine("road abcdefgh 1;road abcdefgi 1;road bbcdefgh 1;road abcdefg 1;road bcdefgh 1;");
        fine("road a 1;road aa 1;road aaa 1;road aaaaaaa 1;road aaaaaaaa 1;road z 1;");
        fault(3, "road zzzzzzzz 1;road zzzzzzz 1;road ^zzzzzzzz 1;");
    }

    static void p04NoneOfTheWordsInQuotesIsAName() {
        for (String word : WORDS) {
            fault(1, "road ^" + word + " 1;");
            fault(1, "road a 1;goer ^" + word + " a 1;");
            fault(1, "road a 1;goer p ^" + word + " 1;");
            fault(1, "road a 1;goer p a 1;wants ^" + word + " a 1;");
            fault(1, "road a 1;goer p a 1;wants p ^" + word + " 1;");
            fine("road x" + word + " 1;");
            fine("road " + word + "x 1;");
            fine("road " + word.substring(0, word.length() - 1) + "q 1;");
        }
        for (String word : WORDS) {
            for (int size = 1; size < word.length(); size++) {
                String part = word.substring(0, size);
                boolean isWord = Arrays.asList(WORDS).contains(part);
                fault(isWord ? 1 : 0, "road " + (isWord ? "^" : "") + part + " 1;");
            }
        }
        fault(1, "keeps=^i 1<2 then 3 else 4;");
        fine("road text 1;road tell 1;road law 1;road part 1;road unit 1;road var 1;");
        fine("road e 1;road name 1;road int 1;road goers 1;road roa 1;road stand 1;");
    }

    static void p04IntsOfOneToFourDigits() {
        fine("seed 0;");
        fine("seed 9999;");
        fine("seed 0000;");
        fault(1, "seed ^00000;");
        fault(1, "seed ^10000;");
        fault(1, "seed ^99999999999999999999;");
        fault(1, "road a ^00001;");
        fine("road a 0001;");
        fault(1, "keeps=^12345;");
        fine("keeps=0123;");
        fault(1, "keeps=1+^00000;");
    }

    private static List<String> words(String row) {
        return Arrays.asList(row.split(" "));
    }

    /**
     * Behind the words so far each TOKEN there is, what is none and the text's end: those of next let a
     * text go on (the end of it is told as END), any other is a SYNTAX fault at its place.
     */
    private static void next(String soFar, String next) {
        List<String> good = words(next);
        List<String> all = words("xy 7 ; = + - * / < ( ) ! A 12345 abcdefghi END " + String.join(" ", WORDS));
        String ahead = soFar.isEmpty() ? "" : soFar + " ";
        for (String token : all) {
            String text = ahead + (token.equals("END") ? "" : token);
            if (!good.contains(token)) {
                fault(1, ahead + "^" + (token.equals("END") ? "" : token));
            } else if (token.equals("END") || token.equals(";")) {
                BlinkerCross x = new BlinkerCross();
                Check.feed(x, text);
                check.due("read() of \"" + text + "\" is no SYNTAX fault", x.read() != 1, true);
            } else {
                fault(1, text + "^");
            }
        }
    }

    static void p04WithWhichNoTextGoesOn() {
        String heads = "road goer wants stands crowds keeps turns seed END";
        next("", heads);
        next("road", "xy");
        next("road a", "7");
        next("road a 1", ";");
        next("road a 1 ;", heads);
        next("goer", "xy");
        next("goer p", "xy");
        next("goer p a", "7");
        next("goer p a 1", ";");
        next("road a 1 ; goer p a 1 ;", heads);
        next("wants", "xy");
        next("wants p", "xy");
        next("wants p a", "7");
        next("wants p a 9", ";");
        next("road a 1 ; goer p a 1 ; wants p a 9 ;", heads);
        next("seed", "7");
        next("seed 3", ";");
        next("seed 3 ;", heads);
    }

    static void p04WithWhichNoLawGoesOn() {
        String heads = "road goer wants stands crowds keeps turns seed END";
        String unit = "7 ( " + VARS;
        for (String law : new String[] {"stands", "crowds", "keeps", "turns"}) {
            next(law, "=");
            next(law + " =", "if " + unit);
            next(law + " = 1", "+ - * / ;");
            next(law + " = seen", "+ - * / ;");
            next(law + " = ( 1 )", "+ - * / ;");
            next(law + " = 1 ;", heads);
            next(law + " = if", unit);
            next(law + " = if 1", "+ - * / <");
            next(law + " = if 1 <", unit);
            next(law + " = if 1 < 2", "+ - * / then");
            next(law + " = if 1 < 2 then", unit);
            next(law + " = if 1 < 2 then 3", "+ - * / else");
            next(law + " = if 1 < 2 then 3 else", "if " + unit);
            next(law + " = if 1 < 2 then 3 else 4", "+ - * / ;");
            next(law + " = if 1 < 2 then 3 else if", unit);
            next(law + " = if 1 < 2 then 3 else if 4 < 5 then 6 else 7 ;", heads);
        }
    }

    static void p04WithWhichNoSumGoesOn() {
        String unit = "7 ( " + VARS;
        for (String sign : new String[] {"+", "-", "*", "/"}) {
            next("keeps = 1 " + sign, unit);
            next("keeps = ( 1 " + sign, unit);
            next("keeps = ( 1 ) " + sign, unit);
            next("keeps = 1 " + sign + " 2", "+ - * / ;");
            next("keeps = if 1 " + sign + " 2", "+ - * / <");
        }
        next("keeps = (", unit);
        next("keeps = ( (", unit);
        next("keeps = ( 1", "+ - * / )");
        next("keeps = ( ( 1 )", "+ - * / )");
        next("keeps = if ( 1", "+ - * / )");
        for (String var : VARS.split(" ")) {
            next("keeps = " + var, "+ - * / ;");
        }
    }

    static void p04AtTheTextsEndItsLength() {
        fault(1, "road^");
        fault(1, "road a 1^");
        fault(1, "road a 1 \n\t\r ^");
        fault(1, "keeps=(1)^");
        fault(1, "keeps=if 1<2 then 3 ^");
        fault(1, "road a 1;goer^");
        fault(1, " ".repeat(1996) + "road^");
    }

    // ---- 2 ROOM

    /** So many TOKENS, six or more, all of them of whole TELLs. */
    private static String filled(int tokens) {
        int laws = tokens % 3;
        return "keeps=1;".repeat(laws) + "seed 1;".repeat((tokens - 4 * laws) / 3);
    }

    static void p04FourHundredTokensAreNotTooMany() {
        fine(filled(400));
        fine(filled(400) + " \n ");
        fine(filled(399));
        fine(filled(396) + "keeps=2;");
        fine("keeps=" + "1+".repeat(198) + "1;");
        fine(filled(396) + "road a 2;");
        BlinkerCross x = Check.of(filled(396) + "road a 2;");
        check.due("the last TELL of them holds", x.road(0, 0), 2);
        BlinkerCross y = Check.of("road a 1;goer p a 1;" + filled(381) + "stands=1+2+3+4;");
        check.due("so does a law with the last of them", y.goer(0, 4), 1 + 2 + 3 + 4);
    }

    static void p04A401stTokenIsRoom() {
        String[] tells = {"road a 1 ;", "goer p a 1 ;", "wants p a 1 ;", "seed 1 ;", "stands = 1 ;", "crowds = here ;",
            "turns = ( day ) ;", "keeps = if ( seen + 1 ) * 2 < want - 3 / day then next else wide ;",
            "keeps = if roads < stood then which else if 1 < 2 then ( 3 ) else ( 4 ) ;"};
        for (String tell : tells) {
            String[] tokens = tell.split(" ");
            for (int last = 0; last < tokens.length; last++) {
                StringBuilder text = new StringBuilder(filled(400 - last));
                for (int i = 0; i < tokens.length; i++) {
                    text.append(i == last ? " ^" : " ").append(tokens[i]);
                }
                fault(2, text.toString());
            }
        }
    }

    static void p04A401stTokenFarAheadOfTheEnd() {
        fault(2, filled(400) + "^seed 1;" + filled(100));
        fault(2, "keeps=" + "1+".repeat(199) + "^1" + "+1".repeat(300) + ";");
        fault(2, "keeps=" + "1+".repeat(199) + "^1" + "+1".repeat(300) + "!!");
    }

    static void p04OfOnePlaceTheLeast() {
        fault(1, filled(400) + "^x");
        fault(1, filled(400) + "^;");
        fault(1, filled(400) + " ^7 ");
        fault(1, filled(400) + "^!");
        fault(1, filled(400) + "^if");
        fault(1, filled(400) + "^abcdefghi");
        fault(1, filled(399) + "seed ^;");
        fault(1, filled(398) + "seed 1^)");
        fault(1, filled(398) + "road a ^11111;");
    }

    static void p04TheTextsEndIsNoToken() {
        fault(1, filled(399) + "seed^");
        fault(1, filled(398) + "seed 1^");
        fault(1, filled(398) + "seed 1 ^");
        fault(1, "keeps=" + "1+".repeat(199) + "^");
        fault(1, "keeps=" + "1+".repeat(198) + "1^");
    }

    static void p04SixRoadsAtMost() {
        fine(SIX_ROADS);
        check.due("ROADS", Check.of(SIX_ROADS).count(0), 6);
        fault(2, SIX_ROADS + "^road g 1;");
        fault(2, SIX_ROADS + "^road g 1;road h 1;");
        fault(2, SIX_ROADS + FIVE_GOERS + "seed 4;^road g 1;");
        fault(2, SIX_ROADS + "goer p a 1;\n  ^road g 1;goer q a 1;");
    }

    static void p04FiveGoersAtMost() {
        fine("road a 1;" + FIVE_GOERS);
        check.due("GOERS", Check.of("road a 1;" + FIVE_GOERS).count(1), 5);
        fault(2, "road a 1;" + FIVE_GOERS + "^goer u a 1;");
        fault(2, "road a 1;" + FIVE_GOERS + "seed 4;^goer u a 1;goer v a 1;");
        fault(2, "road a 1;" + FIVE_GOERS + "^goer u a 1;road b 1;");
    }

    static void p04ThirtyWantsAtMost() {
        StringBuilder each = new StringBuilder(SIX_ROADS + FIVE_GOERS);
        for (int i = 0; i < 30; i++) {
            each.append("wants ").append("pqrst".charAt(i / 6)).append(' ').append("abcdef".charAt(i % 6)).append(' ')
                    .append(i + 1).append(';');
        }
        BlinkerCross x = Check.of(each.toString());
        for (int i = 0; i < 30; i++) {
            check.due("want(" + i / 6 + ", " + i % 6 + ")", x.want(i / 6, i % 6), i + 1);
        }
        fault(2, each + "^wants p a 1;");
        String alike = "road a 1;goer p a 1;" + "wants p a 7;".repeat(30);
        fine(alike);
        fault(2, alike + "^wants p a 7;");
        fault(2, alike + "seed 1;^wants p a 7;wants p a 7;");
    }

    static void p04AtItsFirstTokenThoughMoreIsWrong() {
        fault(2, SIX_ROADS + "^road a 99;");
        fault(2, "road a 1;" + FIVE_GOERS + "^goer p z 99;");
        fault(2, "road a 1;goer p a 1;" + "wants p a 7;".repeat(30) + "^wants z z 100;");
    }

    static void p04LawsAndSeedsAreNoSortOfWhichThereIsAMost() {
        fine("keeps=1;stands=1;crowds=1;turns=1;".repeat(25));
        fine("seed 1;".repeat(133));
    }

    static void p04FourIfsOfALaw() {
        String four = "if 1<2 then 3 else ".repeat(4);
        for (String law : new String[] {"stands=", "crowds=", "keeps=", "turns="}) {
            fine(law + four + "4;");
            fault(2, law + four + "^if 1<2 then 3 else 4;");
            fault(2, law + four + "^if");
            fault(1, law + four + "^;");
        }
        fine("keeps=" + four + "4;keeps=" + four + "4;turns=" + four + "4;");
        fault(2, "keeps=" + four + "4;keeps=" + four + "^if 1<2 then 3 else 4;");
        fault(2, "keeps=" + four + "\n ^if 1<2 then 3 else " + four + "4;");
    }

    static void p04SixBracketsWithinOneAnother() {
        String open = "(".repeat(6);
        String shut = ")".repeat(6);
        String six = open + "1" + shut;
        for (String frame : new String[] {"keeps=@;", "keeps=1+@;", "keeps=1*@;", "keeps=if @<1 then 2 else 3;",
            "keeps=if 1<@ then 2 else 3;", "keeps=if 1<2 then @ else 3;", "keeps=if 1<2 then 3 else @;",
            "keeps=if 1<2 then 3 else if @<4 then 5 else 6;", "keeps=" + six + "*" + six + "-@;",
            "keeps=if " + six + "<" + six + " then @ else " + six + ";"}) {
            fine(frame.replace("@", six));
            fault(2, frame.replace("@", open + "^(1)" + shut));
        }
        fine("keeps=((((((1)+(2))+(3))+(4))+(5))+(6))+(7)+(8);");
        fine("keeps=(1)" + "+(1)".repeat(40) + ";");
        for (String row : new String[] {"+1", "-1", "*1", "/1", "*1/1+1-1"}) {
            fine("keeps=1" + row.repeat(40) + "*" + six + "/" + six + ";");
            fault(2, "keeps=1" + row.repeat(40) + "*" + open + "^(1)" + shut + ";");
        }
        fault(2, "keeps=((((((1)+(^(2)))))));");
        fault(2, "keeps=(2*(2*(2*(2*(2*(2*^(2*1)))))));");
        fault(2, "keeps=" + open + "^((((");
        fault(1, "keeps=" + open + "^)");
    }

    // ---- 3 TWICE, 4 NAME, 5 WRONG

    static void p04ANameToldAlready() {
        fault(3, "road a 1;road ^a 1;");
        fault(3, "road a 1;road b 1;road c 1;road ^b 2;");
        fault(3, "road a 1;goer p a 1;goer ^p a 1;");
        fault(3, "road a 1;road b 1;goer p a 1;goer q a 1;goer ^p b 2;");
        fine("road a 1;goer p a 1;wants p a 1;wants p a 1;");
        fine("road a 1;goer p a 1;goer q a 1;");
    }

    static void p04OfRoadsAndGoersTogether() {
        fault(3, "road a 1;goer ^a a 1;");
        fault(3, "road a 1;road b 1;goer ^b a 1;");
        fault(3, "road a 1;goer p a 1;road ^p 1;");
        fault(3, "road a 1;goer p a 1;goer q a 1;road ^q 1;");
    }

    /** A NAME told more than once: the second time is the FAULT, whatever is told of it behind that. */
    static void p04TheFirstOneOfTheSort() {
        fault(3, "road a 1;road ^a 9;goer p a 7;");
        fault(3, "road a 1;goer p a 1;goer ^p a 2;wants p a 100;");
        fault(3, "road a 1;goer ^a z 9;wants a a 1;");
        fault(4, "goer p ^a 1;road p 1;goer p p 1;");
    }

    static void p04NoSuchRoadToldAhead() {
        fault(4, "goer p ^a 1;");
        fault(4, "goer p ^a 1;road a 1;");
        fault(4, "road a 1;goer p ^b 1;");
        fault(4, "goer p ^p 1;");
        fault(4, "road a 1;goer p a 1;goer q ^p 1;");
        fault(4, "road a 1;goer p a 1;wants p ^b 1;");
        fault(4, "road a 1;goer p a 1;wants p ^b 1;road b 1;");
        fault(4, "road a 1;goer p a 1;wants p ^p 1;");
        fine("road a 1;goer p a 1;road b 1;wants p b 1;");
    }

    static void p04NoSuchGoerToldAhead() {
        fault(4, "wants ^p a 1;");
        fault(4, "road a 1;wants ^p a 1;goer p a 1;");
        fault(4, "road a 1;wants ^a a 1;");
        fault(4, "road a 1;goer p a 1;wants ^q a 1;");
        fault(4, "road a 1;goer p a 1;wants ^a p 1;");
        fault(4, "road a 1;goer p a 1;wants ^q b 100;");
    }

    static void p04WideFrom1To9() {
        for (int wide = 1; wide <= 9; wide++) {
            check.due("WIDE", Check.of("road a " + wide + ";").road(0, 0), wide);
        }
        fine("road a 0009;");
        fault(5, "road a ^0;");
        fault(5, "road a ^10;");
        fault(5, "road a ^0010;");
        fault(5, "road a ^9999;");
        fault(5, "road a ^0000;");
    }

    static void p04SightFrom1To6() {
        for (int sight = 1; sight <= 6; sight++) {
            check.due("SIGHT", Check.of("road a 1;goer p a " + sight + ";").goer(0, 1), sight);
        }
        fine("road a 1;goer p a 0006;");
        fault(5, "road a 1;goer p a ^0;");
        fault(5, "road a 1;goer p a ^7;");
        fault(5, "road a 1;goer p a ^0007;");
        fault(5, "road a 1;goer p a ^9999;");
    }

    static void p04WantsFrom0To99() {
        for (int want : new int[] {0, 1, 98, 99}) {
            check.due("WANT", Check.of("road a 1;goer p a 1;wants p a " + want + ";").want(0, 0), want);
        }
        check.due("WANT", Check.of("road a 1;goer p a 1;wants p a 0099;").want(0, 0), 99);
        fault(5, "road a 1;goer p a 1;wants p a ^100;");
        fault(5, "road a 1;goer p a 1;wants p a ^0100;");
        fault(5, "road a 1;goer p a 1;wants p a ^9999;");
    }

    /** LOTs of number 0 on day 0: 56 with the seed 1, 23 with 9999. */
    static void p04SeedsFrom0To9999() {
        String text = "road a 1;road b 1;goer p a 1;turns=57-day;seed ";
        int[][] faces = {{0, 0}, {1, 1}, {9999, 1}, {7, 0}};
        for (int[] f : faces) {
            BlinkerCross x = Check.of(text + f[0] + ";");
            x.days(1);
            check.due("FACE by the seed " + f[0], x.goer(0, 0), f[1]);
        }
        fault(1, text + "^10000;");
    }

    static void p04NumbersInLawsFrom0To9999() {
        check.due("9999 in a law", Check.of("road a 1;goer p a 1;stands=9999/101;").goer(0, 4), 99);
        check.due("0 in a law", Check.of("road a 1;goer p a 1;stands=0;").goer(0, 4), 0);
    }

    static void p04TheFirstByItsPlace() {
        fault(1, "road a 1;^x " + SIX_ROADS.replace("road a 1;", "road y 1;road z 1;"));
        fault(2, SIX_ROADS + "^road x 1;!");
        fault(2, "keeps=((((((^((((((;!");
        fault(1, "keeps=^;" + "keeps=(((((((1;");
        fault(1, "road a 1;^;road");
        fault(3, "road a 1;road ^a 0;goer p z 0;");
        fault(4, "road a 1;goer p ^z 0;road a 1;");
        fault(5, "road a ^0;road a 1;goer p z 1;");
        fault(5, "road a 1;goer p a ^7;wants z a 100;");
        fault(4, "road a 1;goer p a 1;wants p ^z 100;wants z a 1;");
        fault(5, "road a 1;goer p a 1;wants p a ^100;wants z a 1;");
        fault(5, "road a ^0;road b 0;road c 0;");
    }

    static void p04OnlyIfThereIsNoneOfSyntaxAndRoom() {
        fault(1, "road a 0;road a 1;goer p z 9;wants z z 100;road^");
        fault(1, "road a 0;^!");
        fault(2, "road a 0;road a 1;keeps=((((((^(1)))))));");
        fault(2, "wants p a 1;".repeat(30) + "^wants p a 1;");
        fault(2, "goer p z 0;" + filled(395) + "^seed 1;");
    }

    // ---- what a text without a FAULT tells

    static void p04ZeroIfNotTold() {
        BlinkerCross x = Check.of("road a 1;road b 1;goer p a 1;goer q b 1;wants p b 5;");
        check.due("want(0, 0)", x.want(0, 0), 0);
        check.due("want(0, 1)", x.want(0, 1), 5);
        check.due("want(1, 0)", x.want(1, 0), 0);
        check.due("want(1, 1)", x.want(1, 1), 0);
    }

    static void p04TheLastWantTold() {
        BlinkerCross x = Check.of("road a 1;road b 1;goer p a 1;wants p a 5;wants p b 6;wants p a 99;wants p a 4;");
        check.due("want(0, 0)", x.want(0, 0), 4);
        check.due("want(0, 1)", x.want(0, 1), 6);
        check.due("0 at last", Check.of("road a 1;goer p a 1;wants p a 5;wants p a 0;").want(0, 0), 0);
    }

    static void p04LawsIfNotTold() {
        BlinkerCross x = Check.of("road a 4;road b 4;goer p a 2;goer q a 1;wants p a 9;");
        check.due("STANDS: seen", x.goer(0, 4), 2);
        check.due("STANDS: seen", x.goer(1, 4), 1);
        for (int k = 1; k <= 5; k++) {
            check.due("CROWDS: here", x.crowds(0, 0, k), k);
        }
        check.due("KEEPS: 0", x.goer(0, 8), 0);
        check.due("TURNS: 0", x.goer(0, 9), 0);
    }

    static void p04TheLastLawTold() {
        BlinkerCross x = Check.of("stands=3;road a 4;stands=if 1<2 then 5 else 6;goer p a 1;crowds=7;keeps=1;turns=8;"
                + "keeps=0;turns=if 2<1 then 9 else 10;crowds=here+1;stands=4;");
        check.due("STANDS", x.goer(0, 4), 4);
        check.due("CROWDS", x.crowds(0, 0, 2), 3);
        check.due("KEEPS", x.goer(0, 8), 0);
        check.due("TURNS", x.goer(0, 9), 10);
    }

    static void p04OneLawToldLeavesTheOthers() {
        BlinkerCross x = Check.of("road a 4;goer p a 1;turns=33;");
        check.due("STANDS", x.goer(0, 4), 1);
        check.due("CROWDS", x.crowds(0, 0, 4), 4);
        check.due("KEEPS", x.goer(0, 8), 0);
        check.due("TURNS", x.goer(0, 9), 33);
    }

    /** LOTs of number 0 on day 0: 69 with the seed 0, 56 with 1, 67 with 7. */
    static void p04TheLastSeedToldAnd0IfNone() {
        String text = "road a 1;road b 1;goer p a 1;turns=";
        int[][] due = {{57, 1}, {56, 0}};
        for (int[] d : due) {
            BlinkerCross x = Check.of("seed 7;seed 0;" + text + d[0] + ";seed 1;");
            x.days(1);
            check.due("FACE with TURNS " + d[0], x.goer(0, 0), d[1]);
        }
        int[][] zero = {{69, 0}, {70, 1}};
        for (int[] d : zero) {
            BlinkerCross x = Check.of(text + d[0] + ";");
            x.days(1);
            check.due("FACE with TURNS " + d[0] + " and no seed", x.goer(0, 0), d[1]);
        }
    }

    static void p04NumberedEachFrom0AsTheyStand() {
        BlinkerCross x = Check.of("road z 1;road y 2;goer q y 3;road x 3;goer p x 1;wants q z 4;wants p y 5;road a 9;"
                + "goer b a 2;wants b a 6;");
        int[] wide = {1, 2, 3, 9};
        for (int r = 0; r < 4; r++) {
            check.due("road(" + r + ", 0)", x.road(r, 0), wide[r]);
        }
        int[] face = {1, 2, 3};
        int[] sight = {3, 1, 2};
        for (int g = 0; g < 3; g++) {
            check.due("goer(" + g + ", 0)", x.goer(g, 0), face[g]);
            check.due("goer(" + g + ", 1)", x.goer(g, 1), sight[g]);
        }
        check.due("want(0, 0)", x.want(0, 0), 4);
        check.due("want(1, 1)", x.want(1, 1), 5);
        check.due("want(2, 3)", x.want(2, 3), 6);
    }

    static void p04TheTapeIsEmptyThen() {
        for (String text : new String[] {"", "road a 1;", "road a 0;", "road", "!"}) {
            BlinkerCross x = new BlinkerCross();
            Check.feed(x, text);
            x.read();
            check.due("count(8) behind \"" + text + "\"", x.count(8), 0);
            check.due("read() again", x.read(), 0);
            check.due("ROADS: a text without any is in place", x.count(0), 0);
        }
    }

    private static BlinkerCross busy() {
        BlinkerCross x = Check.of(BUSY);
        x.days(2);
        x.flap(0, 2);
        x.tell(0, 1, true);
        x.tell(4, 3, false);
        x.hold(0);
        x.hold(2);
        x.turn(1, 0);
        x.wish(1, 1, 50);
        return x;
    }

    static void p04ATextWithAFaultChangesNothingButTheTape() {
        for (String text : new String[] {"road", "road z 1;!", "seed 5;road z 1;stands=7;crowds=6;keeps=5;turns=4;seed 10000;",
            SIX_ROADS + "road g 1;", "road z 1;road z 1;", "road z 1;goer y z 1;wants y w 1;",
            "road z 1;goer y z 1;wants y z 99;seed 5;stands=7;crowds=6;keeps=5;turns=99;road y 0;", "road z 0;"}) {
            BlinkerCross x = busy();
            int[] before = Check.state(x);
            int[] ahead = ahead(x);
            Check.feed(x, text);
            check.due("a FAULT", x.read() > 0, true);
            check.same("behind \"" + text + "\"", Check.state(x), before);
            check.same("days ahead behind \"" + text + "\"", ahead(x), ahead);
            check.due("restore(0)", x.restore(0), true);
            check.due("restore(1)", x.restore(1), false);
        }
    }

    /** What laws and the seed make of the days ahead. */
    private static int[] ahead(BlinkerCross x) {
        return new int[] {x.then(0, 30, 0), x.then(0, 30, 1), x.then(0, 30, 2), x.then(1, 30, 1), x.gainedIn(0, 30),
            x.gainedIn(1, 30), x.year(0, 0, 20, 20)};
    }

    static void p04AFaultLeavesWhatCanBeUndone() {
        BlinkerCross x = busy();
        Check.feed(x, "road z 0;");
        x.read();
        check.due("undo()", x.undo(), true);
        check.due("want(1, 1)", x.want(1, 1), 0);
        check.due("count(9)", x.count(9), 3);
    }

    static void p04InPlaceOfTheOneAheadDay0() {
        BlinkerCross x = busy();
        check.due("the day ahead", x.count(2), 2);
        again(x);
        check.due("the day", x.count(2), 0);
    }

    private static void again(BlinkerCross x) {
        Check.feed(x, BUSY);
        check.due("read()", x.read(), 0);
    }

    static void p04InPlaceOfTheOneAheadNobodyHasStood() {
        BlinkerCross x = busy();
        again(x);
        for (int g = 0; g < 2; g++) {
            check.due("stood of " + g, x.goer(g, 7), 0);
            check.due("GAINED of " + g, x.gained(g), 0);
        }
        check.due("count(12)", x.count(12), 0);
        check.due("count(13)", x.count(13), 0);
    }

    static void p04InPlaceOfTheOneAheadNothingCanBeUndone() {
        BlinkerCross x = busy();
        again(x);
        check.due("count(9)", x.count(9), 0);
        check.due("undo()", x.undo(), false);
        check.due("want(1, 1)", x.want(1, 1), 0);
    }

    static void p04InPlaceOfTheOneAheadNothingIsTold() {
        BlinkerCross x = busy();
        again(x);
        check.due("count(10)", x.count(10), 0);
        check.due("who(1, 0)", x.who(1, 0), -1);
        check.due("forget()", x.forget(), 0);
        check.due("tell(0, 0, true)", x.tell(0, 0, true), 0);
    }

    static void p04InPlaceOfTheOneAheadSlotsHoldNothing() {
        BlinkerCross x = busy();
        x.hold(1);
        again(x);
        check.due("count(11)", x.count(11), 0);
        for (int slot = 0; slot < 3; slot++) {
            check.due("restore(" + slot + ")", x.restore(slot), false);
        }
    }

    static void p04InPlaceOfTheOneAheadAllItTold() {
        BlinkerCross x = busy();
        Check.feed(x, "road z 8;road y 7;goer w y 2;goer v z 1;");
        check.due("read()", x.read(), 0);
        check.same("as a new object that reads it", Check.state(x),
                Check.state(Check.of("road z 8;road y 7;goer w y 2;goer v z 1;")));
        check.due("CROWDS", x.crowds(0, 0, 5), 5);
        Check.feed(x, "");
        check.due("read()", x.read(), 0);
        check.due("ROADS", x.count(0), 0);
        check.due("GOERS", x.count(1), 0);
    }

    static void p04InPlaceOfTheOneAheadWhichWasLarger() {
        StringBuilder large = new StringBuilder(SIX_ROADS + "goer p f 6;goer q f 6;goer r e 5;goer s d 4;goer t c 3;"
                + "stands=if 1<2 then 50+which else 60;crowds=if 1<2 then 30 else 40;keeps=if 1<2 then 1 else 0;turns=100;seed 77;");
        for (int i = 0; i < 30; i++) {
            large.append("wants ").append("pqrst".charAt(i / 6)).append(' ').append("abcdef".charAt(i % 6)).append(" 99;");
        }
        String small = "road x 2;road y 3;goer z x 2;wants z y 4;";
        BlinkerCross x = Check.of(large.toString());
        check.due("oneEach(-1)", x.oneEach(-1), 495);
        check.due("rests()", x.rests() > 1, true);
        x.days(5);
        Check.feed(x, small);
        check.due("read()", x.read(), 0);
        BlinkerCross y = Check.of(small);
        check.same("as a new object that reads it", Check.state(x), Check.state(y));
        int[] due = {2, 1, 0, 2, 0, 3, 2, 3, 0, 0, 0, 0, 0, 0, 2, 2};
        for (int what = 0; what <= 15; what++) {
            check.due("count(" + what + ")", x.count(what), due[what]);
        }
        check.due("want(0, 0)", x.want(0, 0), 0);
        check.due("road(0, 2)", x.road(0, 2), 1);
        check.due("road(0, 3)", x.road(0, 3), 0);
        check.due("rests()", x.rests(), 1);
        check.due("same(0)", x.same(0), 0);
        check.due("oneEach(-1)", x.oneEach(-1), 4);
        check.same("days ahead", aheadOfOne(x), aheadOfOne(y));
    }

    /** LOTs of number 0 on day 0: 69 with the seed 0, 67 with 7. */
    static void p04InPlaceOfTheOneAheadItsSeed() {
        BlinkerCross x = Check.of("seed 7;");
        Check.feed(x, "road a 1;road b 1;goer p a 1;turns=69;");
        check.due("read()", x.read(), 0);
        x.days(1);
        check.due("FACE with the seed 0", x.goer(0, 0), 0);
    }

    static void p04InPlaceOfTheOneAheadItsLaws() {
        for (String law : new String[] {"stands", "crowds", "keeps", "turns"}) {
            BlinkerCross x = Check.of("road a 1;goer p a 1;" + law + "=if 1<2 then 77 else 78;");
            Check.feed(x, "road a 4;goer p a 1;");
            check.due("read()", x.read(), 0);
            check.due("STANDS", x.goer(0, 4), 1);
            check.due("CROWDS", x.crowds(0, 0, 3), 3);
            check.due("KEEPS", x.goer(0, 8), 0);
            check.due("TURNS", x.goer(0, 9), 0);
        }
    }

    static void p04TextAfterText() {
        BlinkerCross x = new BlinkerCross();
        String law = "1+".repeat(150);
        for (int i = 0; i < 9; i++) {
            Check.feed(x, SIX_ROADS + FIVE_GOERS + "keeps=" + law + i + ";stands=" + i + ";" + "wants p b 3;".repeat(4));
            check.due("read() number " + i, x.read(), 0);
            check.due("STANDS", x.goer(4, 4), i);
            check.due("KEEPS", x.goer(4, 8), 1);
            check.due("want(0, 1)", x.want(0, 1), 3);
        }
    }

    private static int[] aheadOfOne(BlinkerCross x) {
        return new int[] {x.then(0, 30, 0), x.then(0, 30, 1), x.then(0, 30, 2), x.gainedIn(0, 30), x.year(0, 0, 20, 20)};
    }

    // ---- promise 5: place

    static void p05NoneWithout() {
        BlinkerCross x = new BlinkerCross();
        check.due("place() ahead of any read()", x.place(), -1);
        Check.feed(x, "!");
        check.due("place() with a FAULT not read", x.place(), -1);
        x.back(1);
        x.read();
        check.due("place()", x.place(), -1);
    }

    static void p05OfTheLatestRead() {
        BlinkerCross x = new BlinkerCross();
        Check.feed(x, "road a 0;");
        x.read();
        check.due("place()", x.place(), 7);
        Check.feed(x, "!");
        check.due("place() ahead of the next read()", x.place(), 7);
        x.read();
        check.due("place() of the first byte", x.place(), 0);
        Check.feed(x, "road a 1;");
        x.read();
        check.due("place() without a FAULT", x.place(), -1);
        x.days(1);
        x.hold(0);
        Check.feed(x, "road a 1; road a 1;");
        x.read();
        x.undo();
        x.restore(0);
        check.due("place() stays", x.place(), 15);
    }

    static void p05TheTextsEndIsItsLength() {
        BlinkerCross x = new BlinkerCross();
        feedWith(x, -1, 0);
        Check.feed(x, "seed   ");
        x.read();
        check.due("place()", x.place(), 27);
    }
}
