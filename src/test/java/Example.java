/** Three roads, two goers; how README.md shows the use of BlinkerCross. */
public final class Example {
    public static void main(String[] args) {
        BlinkerCross x = new BlinkerCross();

        // A text is fed and read; a text with a fault changes nothing.
        feed(x, "road mill 3; road lake 1; road hill 12;");
        System.out.println("fault " + x.read() + " at byte " + x.place());
        feed(x, "road mill 3; road lake 1; road hill 5;"
                + "goer ann mill 2; goer bob lake 1;"
                + "wants ann lake 20; wants ann hill 30; wants bob lake 25;"
                + "stands = seen * 2 + here; crowds = here * 12 / wide;"
                + "turns = if stood < 9 then 0 else 50; seed 7;");
        System.out.println("fault " + x.read() + ", roads " + x.count(0) + ", goers " + x.count(1));

        // How it is: ann is goer 0, bob goer 1; mill is road 0, lake 1, hill 2.
        System.out.println("ann takes road " + x.goer(0, 3) + ", stands " + x.goer(0, 4) + ", misses " + x.goer(0, 5));
        System.out.println("on the lake road: " + x.road(1, 1) + ", gain of all: " + x.count(5));

        // What would be: nothing happens by it.
        System.out.println("sight of ann, so that all stand 8 at most: " + x.plan(8, 0)
                + ", missed then: " + x.plan(8, BlinkerCross.NONE));
        System.out.println("rests: " + x.rests() + ", the best one gains " + x.bestRest(BlinkerCross.NONE));
        System.out.println("in 4 days ann stood " + x.then(0, 4, 0) + ", faces road " + x.then(0, 4, 1));

        // By hand: each answers whether anything was done, and can be undone.
        x.hold(0);
        x.flap(0, 3);
        System.out.println("with sight 3 ann takes road " + x.goer(0, 3) + ", gain of all: " + x.count(5));
        System.out.println("day " + x.days(2) + ", ann stood " + x.goer(0, 7) + ", gained " + x.gained(0));
        x.undo();
        System.out.println("day " + x.count(2) + ", things that can be undone: " + x.count(9));
        x.restore(0);
        System.out.println("ann takes road " + x.goer(0, 3) + " again");

        // Of a goer unknown it is told that they see (mark 3) two roads or more.
        int number = x.tell(3, 2, true);
        System.out.println("told as number " + number + ": " + x.who(1, 0) + " left, bits " + x.who(1, 1));
    }

    /** Twenty bytes at a time; the blanks with which the last part is filled up are taken back. */
    static void feed(BlinkerCross x, String text) {
        int[] ints = new int[5];
        for (int from = 0; from < text.length(); from += 20) {
            for (int i = 0; i < 20; i++) {
                int sign = from + i < text.length() ? text.charAt(from + i) : ' ';
                ints[i / 4] = ints[i / 4] << 8 | sign;
            }
            x.feed(ints[0], ints[1], ints[2], ints[3], ints[4]);
        }
        x.back((20 - text.length() % 20) % 20);
    }
}
