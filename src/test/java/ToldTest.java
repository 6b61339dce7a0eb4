/** Promises 32 to 35: a goer unknown. */
public final class ToldTest {
    private static final Check check = new Check();

    public static void main(String[] args) {
        telling();
        who();
        look();
        check.end();
    }

    private static void telling() {
        check.about("promises 32 and 33");
        BlinkerCross x = new BlinkerCross();
        check.due("forget()", x.forget(), 0);
        check.due("tell(-1, 0, true)", x.tell(-1, 0, true), -1);
        check.due("tell(5, 0, true)", x.tell(5, 0, true), -1);
        check.due("tell(0, -1, true)", x.tell(0, -1, true), -1);
        check.due("tell(0, 100, true)", x.tell(0, 100, true), -1);
        check.due("count(10)", x.count(10), 0);
        for (int i = 0; i < 20; i++) {
            check.due("tell number " + i, x.tell(i % 5, i * 5 + 4, i % 2 == 0), i);
        }
        check.due("a 21st", x.tell(0, 0, true), -1);
        check.due("count(10)", x.count(10), 20);
        check.due("forget()", x.forget(), 20);
        check.due("count(10)", x.count(10), 0);
        check.due("tell(0, 99, false)", x.tell(0, 99, false), 0);
    }

    private static void who() {
        check.about("promise 34");
        BlinkerCross x = Check.of(StateTest.TEXT);
        // CHOICE 1 2 1, STANDS 2 2 1, MISSED 10 2 0, seen 2 2 1, stood 2 2 1 behind a day
        x.days(1);
        int[][] facts = {{0, 1, 7}, {0, 2, 2}, {1, 2, 3}, {2, 0, 7}, {2, 1, 3}, {2, 3, 1}, {3, 2, 3}, {3, 3, 0},
            {4, 1, 7}, {4, 2, 3}, {4, 3, 0}};
        for (int[] f : facts) {
            x.tell(f[0], f[1], true);
            check.due("which, so", x.who(1, 1), f[2]);
            check.due("how many, so", x.who(1, 0), Integer.bitCount(f[2]));
            x.forget();
            x.tell(f[0], f[1], false);
            check.due("which, not so", x.who(1, 1), 7 & ~f[2]);
            x.forget();
        }
        x.tell(4, 2, true);
        x.tell(0, 2, false);
        x.tell(2, 11, true);
        int[] left = {7, 3, 1, 0};
        for (int k = 0; k < 4; k++) {
            check.due("who(" + k + ", 1)", x.who(k, 1), left[k]);
            check.due("who(" + k + ", 0)", x.who(k, 0), Integer.bitCount(left[k]));
        }
        check.due("who(4, 0)", x.who(4, 0), -1);
        check.due("who(-1, 0)", x.who(-1, 0), -1);
        check.due("who(0, 2)", x.who(0, 2), -1);
        check.due("who(0, -1)", x.who(0, -1), -1);
        x.wish(0, 2, 31);
        check.due("as it is now", x.who(3, 1), 1);
    }

    private static void look() {
        check.about("promise 35");
        BlinkerCross x = Check.of(StateTest.TEXT);
        // CHOICE 1 2 1, STANDS 2 2 1, MISSED 10 2 0, seen 2 2 1, stood 0 0 0
        check.due("all alike: the first", x.look(0, 0), 0);
        check.due("look(0, 1)", x.look(0, 1), 2);
        check.due("look(0, 2)", x.look(0, 2), 0);
        check.due("look(0, 5)", x.look(0, 5), 2);
        check.due("look(0, 99)", x.look(0, 99), 0);
        x.tell(0, 2, false);
        // ann and cy are left
        check.due("look(1, 2)", x.look(1, 2), 1);
        check.due("look(1, 3)", x.look(1, 3), 2);
        x.tell(4, 1, true);
        check.due("none is left", x.look(2, 2), -2);
        check.due("look(1, 2)", x.look(1, 2), 1);
        check.due("look(3, 2)", x.look(3, 2), -1);
        check.due("look(-1, 2)", x.look(-1, 2), -1);
        check.due("look(0, -1)", x.look(0, -1), -1);
        check.due("look(0, 100)", x.look(0, 100), -1);
        check.due("no GOERS", new BlinkerCross().look(0, 0), -2);
        check.due("no GOERS", new BlinkerCross().who(0, 0), 0);
        BlinkerCross y = Check.of("road a 1;goer p a 1;goer q a 1;stands=if which<1 then 3 else 3+day;");
        y.days(2);
        // STANDS 3 5, stood 6 7
        check.due("stood", y.look(0, 7), 4);
        check.due("STANDS", y.look(0, 4), 1);
    }
}
