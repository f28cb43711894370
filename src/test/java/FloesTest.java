/** Promises 5 to 9: is, bears, pass, next, crowd. */
public final class FloesTest {
    public static void main(String[] args) {
        isWhere();
        turning();
        bears();
        pass();
        next();
        crowd();
        Due.end();
    }

    private static void isWhere() {
        FloeToFloe x = Due.river("ff08r25;fm01l15;fg03r15;fh07r25;fs04l25;");
        check(x, "is", 0, new int[] {8, 0, 2, 4, 6, 8});
        check(x, "is", 1, new int[] {1, 0, 9, 8, 7, 6});
        check(x, "is", 2, new int[] {3, 4, 5, 6, 7, 8, 9, 0});
        check(x, "is", 3, new int[] {7, 7, 7, 7});
        check(x, "is", 4, new int[] {4, 2, 0, 8, 6, 4});
        Due.is("is(0, 120)", x.is(0, 120), 8);
        Due.is("is(0, 119)", x.is(0, 119), 6);
        Due.is("is(1, 117)", x.is(1, 117), 4);
        x.pass(13);
        Due.is("is is told of a minute, whatever minute it is", x.is(1, 3), 8);
        Due.is("is(-1, 0)", x.is(-1, 0), -1);
        Due.is("is(5, 0)", x.is(5, 0), -1);
        Due.is("is(5, -1)", x.is(5, -1), -1);
        Due.is("is(0, -1)", x.is(0, -1), -4);
        Due.is("is(0, 121)", x.is(0, 121), -6);
        Due.is("refusals -1", x.count(11), 3);
        Due.is("refusals -4", x.count(14), 1);
        Due.is("refusals -6", x.count(16), 1);
    }

    private static void turning() {
        FloeToFloe x = Due.river("ft08r15;ft01l25;ft05r05;");
        check(x, "is", 0, new int[] {8, 9, 0, 1, 0, 9, 8, 9, 0, 1, 0, 9, 8});
        check(x, "is", 1, new int[] {1, 9, 7, 5, 7, 9, 1, 9});
        check(x, "is", 2, new int[] {5, 5, 5, 5, 5, 5, 5});
        Due.is("is(0, 117)", x.is(0, 117), 1);
        Due.is("is(0, 120)", x.is(0, 120), 8);
        check(x, "bears", 0, new int[] {5, 5, 5, 5, 5, 5, 5, 5, 5, 5});
    }

    private static void bears() {
        FloeToFloe x = Due.river("ff00r04;fm00r03;fg00r03;ft00r06;fh00r07;fs00r02;");
        check(x, "bears", 0, new int[] {4, 4, 4, 4, 4, 4, 4, 4, 4});
        check(x, "bears", 1, new int[] {3, 3, 3, 3, 2, 2, 2, 2, 1, 1, 1, 1, 0, 0, 0, 0, 0, 0});
        check(x, "bears", 2, new int[] {3, 2, 3, 2, 2, 1, 2, 1, 1, 0, 1, 0, 0, 0, 0, 0, 0});
        check(x, "bears", 5, new int[] {2, 2, 2, 2, 2, 2, 3, 3, 3, 3, 3, 3, 4});
        Due.is("a floe in minute 120", x.bears(0, 120), 4);
        Due.is("a melting one in minute 120", x.bears(1, 120), 0);
        Due.is("a grinding one in minute 119", x.bears(2, 119), 0);
        Due.is("a turning one in minute 119", x.bears(3, 119), 6);
        Due.is("a held one in minute 119", x.bears(4, 119), 7);
        Due.is("a swelling one in minute 119", x.bears(5, 119), 21);
        Due.is("a swelling one in minute 120", x.bears(5, 120), 22);
        Due.is("bears(-1, 0)", x.bears(-1, 0), -1);
        Due.is("bears(6, 121)", x.bears(6, 121), -1);
        Due.is("bears(0, -1)", x.bears(0, -1), -4);
        Due.is("bears(0, 121)", x.bears(0, 121), -6);
        Due.is("refusals -1", x.count(11), 2);
        Due.is("refusals -4", x.count(14), 1);
        Due.is("refusals -6", x.count(16), 1);
    }

    private static void pass() {
        FloeToFloe x = new FloeToFloe();
        Due.is("pass(0)", x.pass(0), -4);
        Due.is("pass(-1)", x.pass(-1), -4);
        Due.is("pass(61)", x.pass(61), -6);
        Due.is("pass(most)", x.pass(Integer.MAX_VALUE), -6);
        Due.is("pass(1)", x.pass(1), 1);
        Due.is("pass(58)", x.pass(58), 59);
        Due.is("pass(2)", x.pass(2), -6);
        Due.is("minute", x.count(2), 59);
        Due.is("pass(1) to 60", x.pass(1), 60);
        Due.is("pass(1) above 60", x.pass(1), -6);
        Due.is("pass(0) in minute 60", x.pass(0), -4);
        x = new FloeToFloe();
        Due.is("pass(60)", x.pass(60), 60);
    }

    private static void next() {
        FloeToFloe x = Due.river("r4;fh05r01;fh16r01;fh14r01;fh17r01;fh15r01;fh25r01;fh05r01;fh36r01;");
        Due.is("lane 0: beside, not two cells off, not its own lane, not lane 2", x.next(0), 2 + 4 + 16);
        Due.is("lane 1, cell 6: lanes 0 and 2", x.next(1), 1 + 32 + 64);
        Due.is("lane 1, cell 7", x.next(3), 0);
        Due.is("lane 2", x.next(5), 2 + 4 + 16 + 128);
        Due.is("lane 3, cell 6", x.next(7), 32);
        Due.is("next(-1)", x.next(-1), -1);
        Due.is("next(8)", x.next(8), -1);
        x = Due.river("fh09r01;fh10r01;fh18r01;fh11r01;");
        Due.is("the lanes are round", x.next(0), 2 + 4);
        Due.is("the lanes are round from cell 0", x.next(1), 1);
        x = Due.river("r2;fh00r01;fm17l11;");
        Due.is("minute 0", x.next(0), 0);
        x.pass(5);
        Due.is("minute 5", x.next(0), 0);
        x.pass(1);
        Due.is("minute 6, whatever it bears", x.next(0), 2);
        x.pass(2);
        Due.is("minute 8", x.next(0), 2);
        Due.is("minute 8, back", x.next(1), 1);
        x.pass(1);
        Due.is("minute 9", x.next(0), 0);
        Due.is("refused", x.count(11), 0);
    }

    private static void crowd() {
        FloeToFloe x = Due.river("fh00r01;fh00r01;fh00r01;fh10r01;fh05r01;ff13l11;ff18r11;");
        Due.is("three at one cell", x.crowd(0), 3);
        Due.is("minute 2: lane 1, cells 1 and 0", x.crowd(2), 5);
        Due.is("minute 3: one comes to a held one", x.crowd(3), 5);
        x.pass(4);
        Due.is("whatever minute it is", x.crowd(0), 3);
        Due.is("minute 7", x.crowd(7), 3);
        x = Due.river("ff00r11;fh05r01;fh02r01;ff15r01;");
        Due.is("alone", x.crowd(0), 0);
        Due.is("two in minute 5", x.crowd(5), 2);
        Due.is("two in minute 2", x.crowd(2), 2);
        Due.is("minute 120", x.crowd(120), 0);
        Due.is("minute 115", x.crowd(115), 2);
        Due.is("crowd(-1)", x.crowd(-1), -4);
        Due.is("crowd(121)", x.crowd(121), -6);
        Due.is("no floes", new FloeToFloe().crowd(0), 0);
    }

    private static void check(FloeToFloe x, String call, int floe, int[] want) {
        for (int m = 0; m < want.length; m++) {
            Due.is(call + "(" + floe + ", " + m + ")", call.equals("is") ? x.is(floe, m) : x.bears(floe, m), want[m]);
        }
    }
}
