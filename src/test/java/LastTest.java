/** Promises 24 to 27: seeds, image, on, count. */
public final class LastTest {
    public static void main(String[] args) {
        seeds();
        image();
        imageOfNothing();
        count();
        Due.end();
    }

    private static void seeds() {
        // Seed 7 draws cell 7 with load 3, 6 with 2, 7 with 6, 5 with 4; seed 0 draws 3 with 4, 6 with 6, 9 with 6, 4 with 3.
        int[] strengths = {2, 3, 4, 6};
        int[][] seven = {{0, 1, 1, 1}, {1, 2, 2, 2}, {1, 2, 2, 3}, {1, 2, 3, 4}};
        int[][] nought = {{0, 0, 0, 0}, {0, 0, 0, 1}, {1, 1, 1, 2}, {1, 2, 3, 4}};
        for (int s = 0; s < strengths.length; s++) {
            FloeToFloe x = Due.river("r1;fh00r0" + strengths[s] + ";");
            for (int n = 1; n <= 4; n++) {
                Due.is("seeds(" + n + ", 7), bearing " + strengths[s], x.seeds(n, 7), seven[s][n - 1]);
                Due.is("seeds(" + n + ", 0), bearing " + strengths[s], x.seeds(n, 0), nought[s][n - 1]);
            }
        }
        // A river that bears 5 up to minute 3: the cell counts as well. Cells 7 .. 3 come in time with load 5.
        FloeToFloe x = Due.river("r1;fm00r05;");
        Due.is("seed -1: cell 1 load 3, 6 with 1, 8 with 6, 0 with 5", x.seeds(4, -1), 3);
        Due.is("its third", x.seeds(3, -1), 2);
        Due.is("load 4 in time from 3, load 3 from 4", x.seeds(4, 0), 2);
        // Reckoned from the draws: load L comes in time if its way to the floe is at most 22 - 4 L minutes.
        Due.is("twenty with seed -1", x.seeds(20, -1), 9);
        Due.is("twenty with seed 2026", x.seeds(20, 2026), 14);
        x.pass(3);
        Due.is("minute 3: load 5 is too late", x.seeds(4, -1), 2);
        Due.is("minute 3: twenty with seed 12345", x.seeds(20, 12345), 9);
        Due.is("minute 3: twenty with seed 99", x.seeds(20, 99), 10);
        Due.is("n 0", x.seeds(0, 1), -4);
        Due.is("n 21", x.seeds(21, 1), -6);
        Due.is("n 20 and the greatest seed", Due.river("r1;fh00r09;").seeds(20, Integer.MAX_VALUE), 20);
        Due.is("n 20 and the least seed", Due.river("r1;fh00r09;").seeds(20, Integer.MIN_VALUE), 20);
        Due.is("refusals -4", x.count(14), 1);
        Due.is("refusals -6", x.count(16), 1);
    }

    private static void image() {
        FloeToFloe x = Due.river("r4;fs32l25;m20;");
        x.row(3);
        x.letter('r');
        x.pass(0);
        Due.is("image()", x.image(), 20);
        Due.tell(x, "5;ff40r19;m50;");
        x.row(4);
        x.letter('m');
        x.letter('1');
        x.floe(9, 9);
        Due.is("lanes ahead of on()", x.count(0), 5);
        Due.is("floes ahead of on()", x.count(1), 2);
        Due.is("minute ahead of on()", x.count(2), 50);
        for (int again = 0; again < 2; again++) {
            Due.is("on()", x.on(), 20);
            Due.is("lanes", x.count(0), 4);
            Due.is("floes", x.count(1), 1);
            Due.is("minute", x.count(2), 20);
            Due.is("no second floe", x.floe(1, 0), -1);
            int[] told = {5, 3, 2, 0, 5};
            for (int what = 0; what < told.length; what++) {
                Due.is("floe(0, " + what + ")", x.floe(0, what), told[what]);
            }
            Due.is("the row is as it was ahead of on()", x.count(3), 2);
            Due.is("the letters too", x.count(4), 2);
            Due.is("the refusals too", x.count(11), 2 + again);
            Due.is("and -4", x.count(14), 1);
            x.pass(1);
            Due.tell(x, ";ff30r11;");
            x.letter('m');
            x.letter('1');
        }
        Due.is("a later image", x.image(), 1);
        x.pass(2);
        Due.is("on() from the later one", x.on(), 1);
        Due.is("its floes", x.count(1), 2);
        Due.tell(x, ";");
        Due.tell(x, "r4;fm33l12;");
        Due.is("another second floe, behind it", x.floe(1, 0) * 10 + x.floe(2, 0), 1);
        Due.is("on() once more", x.on(), 1);
        Due.is("no third floe", x.floe(2, 0), -1);
    }

    private static void imageOfNothing() {
        FloeToFloe x = new FloeToFloe();
        Due.is("on() without an image", x.on(), -3);
        Due.is("refusals -3", x.count(13), 1);
        Due.is("image()", x.image(), 0);
        Due.tell(x, "r5;ff40r01;m9;");
        Due.is("on()", x.on(), 0);
        Due.is("lanes", x.count(0), 3);
        Due.is("floes", x.count(1), 0);
        Due.is("refusals -3 behind it", x.count(13), 1);
    }

    private static void count() {
        FloeToFloe x = Due.river("r4;fm00r05;fg00r04;fs00r03;fh00r09;");
        Due.is("lanes", x.count(0), 4);
        Due.is("floes", x.count(1), 4);
        Due.is("minute", x.count(2), 0);
        Due.is("all bear 5, 4, 3, 9", x.count(5), 21);
        x.pass(7);
        Due.is("all bear 4, 2, 4, 9", x.count(5), 19);
        Due.is("minute 7", x.count(2), 7);
        x.row(1);
        x.letter(1);
        x.letter(1);
        Due.is("in the row", x.count(3), 1);
        Due.is("letters", x.count(4), 2);
        x.next(9);
        x.fitting(9);
        x.fitting(9);
        x.on();
        x.on();
        x.on();
        x.crowd(-1);
        x.crowd(121);
        x.crowd(121);
        int[] want = {1, 2, 3, 1, 0, 2};
        for (int i = 0; i < want.length; i++) {
            Due.is("count(" + (11 + i) + ")", x.count(11 + i), want[i]);
        }
        for (int what : new int[] {-1, 6, 7, 8, 9, 10, 17, 18, 100, Integer.MIN_VALUE, Integer.MAX_VALUE}) {
            Due.is("count(" + what + ")", x.count(what), -9);
        }
        Due.is("another what is not counted", x.count(12), 2);
    }
}
