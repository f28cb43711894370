/** Promises 19 to 23: row, fitting, judge, ends, clear. */
public final class SeenTest {
    public static void main(String[] args) {
        row();
        fitting();
        fittingNothing();
        judgeWalking();
        judgeLeaping();
        judgeBearing();
        eachOfItsOwnLoad();
        judgeBehindTheNorthBank();
        twelveActs();
        refusals();
        clear();
        Due.end();
    }

    private static void row() {
        FloeToFloe x = new FloeToFloe();
        Due.is("row(-1)", x.row(-1), -4);
        Due.is("row(13)", x.row(13), -6);
        for (int i = 1; i <= 12; i++) {
            Due.is("row " + i, x.row(i == 1 ? 0 : 12), i);
        }
        Due.is("row 13", x.row(0), -6);
        Due.is("row(-1) without room", x.row(-1), -4);
        Due.is("in the row", x.count(3), 12);
        Due.is("refusals -4", x.count(14), 2);
        Due.is("refusals -6", x.count(16), 2);
    }

    private static void fitting() {
        fits(15, 0, 7);
        fits(7, 2, 5, 5);
        fits(7, 2, 5, 5, 5, 5, 5, 5, 5, 5, 5, 5, 5, 5);
        fits(2, 3, 1, 2, 3, 4);
        fits(1, 3, 1, 2, 3, 4, 5);
        fits(1, 13, 1, 2, 3, 4, 3);
        fits(1, 13, 8, 9, 0, 1, 0, 9, 8, 9, 0, 1);
        fits(2, 0, 0, 8, 6, 4);
        fits(1, 0, 0, 8, 6, 4, 2, 0, 8, 6, 4, 2, 0, 8);
        fits(1, 10, 0, 8, 6, 4, 6, 8, 0, 8, 6, 4, 6, 8);
        fits(2, 1, 0, 9);
        fits(1, 14, 9, 1, 3, 5, 3);
        fits(1, 4, 9, 1, 3, 5, 7);
    }

    private static void fittingNothing() {
        fits(0, -9);
        fits(0, -9, 10);
        fits(0, -9, 12);
        fits(0, -9, 10, 10);
        fits(0, -9, 9, 10);
        fits(0, -9, 9, 9, 9, 12);
        fits(0, -9, 1, 5);
        fits(0, -9, 1, 2, 3, 5);
        fits(0, -9, 1, 2, 4);
        FloeToFloe x = new FloeToFloe();
        Due.is("fitting(-1)", x.fitting(-1), -2);
        Due.is("fitting(2)", x.fitting(2), -2);
        Due.is("refusals -2", x.count(12), 2);
        x = Due.river("ff05r25;m07;");
        Due.row(x, 5, 7, 9);
        Due.is("minutes 0, 1, .., whatever minute it is", x.fitting(1), 4);
    }

    private static void fits(int many, int first, int... numbers) {
        FloeToFloe x = new FloeToFloe();
        Due.row(x, numbers);
        String row = java.util.Arrays.toString(numbers);
        Due.is("fitting(0) of " + row, x.fitting(0), many);
        Due.is("fitting(1) of " + row, x.fitting(1), first);
        Due.is("the row stays", x.count(3), numbers.length);
    }

    private static void judgeWalking() {
        FloeToFloe x = Due.river("r1;fh00r09;");
        follows(x, 1, 0, -9, 10);
        follows(x, 1, 0, -9, 19, 10);
        follows(x, 1, 9, -9, 10, 11);
        follows(x, 1, 4, -9, 14, 9, 9);
        follows(x, 1, 4, -9, 16, 11, 9, 11);
        follows(x, 1, 4, -9, 12, 10, 9, 10);
        follows(x, 1, 4, 1, 13, 10, 12, 11, 11);
        follows(x, 1, 4, 0, 14, 8, 11);
    }

    private static void judgeLeaping() {
        FloeToFloe x = Due.river("r2;fh00r09;fh11r09;fh12r09;fh02r09;");
        follows(x, 1, 0, -9, 0, 0);
        follows(x, 1, 1, -9, 0, 0);
        follows(x, 1, 9, -9, 0, 0);
        follows(x, 1, 2, 0, 12, 0);
        follows(x, 1, 1, 0, 11, 1);
        follows(x, 1, 0, 0, 10, 4);
        follows(x, 1, 0, 0, 10, 7, 0);
        follows(x, 1, 0, 1, 0, 0, 0);
        follows(x, 1, 0, 1, 0, 0, 2);
        follows(x, 1, 0, 1, 0, 0, 3);
        follows(x, 1, 0, 1, 0, 0, 8);
        follows(x, 1, 0, 1, 0, 0, 10);
        follows(x, 1, 0, 1, 0, 0, 11);
        follows(x, 1, 9, -9, 10, 0, 12);
        follows(x, 1, 9, -9, 19, 0, 12, 10);
        follows(x, 1, 0, -9, 1, 0, 1);
        follows(x, 1, 0, -9, 3, 0, 1, 3);
        follows(x, 1, 0, -9, 12, 0, 1, 3, 12);
        follows(x, 1, 0, 2, 1, 0, 1, 2);
        follows(x, 1, 0, 2, 1, 0, 1, 12);
        follows(x, 1, 0, -9, 8, 0, 1, 8);
        follows(x, 1, 0, -9, 8, 0, 9, 1, 9, 8);
        x = Due.river("r1;ff00r29;");
        follows(x, 1, 2, 0, 12, 0);
        follows(x, 1, 2, -9, 0, 9, 0);
        follows(x, 1, 2, -9, 14, 9, 0, 12);
        follows(x, 1, 2, -9, 16, 9, 0, 9, 12);
        x.pass(1);
        follows(x, 1, 2, -9, 0, 0);
        follows(x, 1, 2, 1, 12, 9, 0);
    }

    private static void judgeBearing() {
        FloeToFloe x = Due.river("r1;fm00r05;");
        follows(x, 5, 0, -9, 0, 9, 9, 0);
        follows(x, 5, 0, 3, 10, 9, 9, 9, 0);
        follows(x, 5, 0, -9, 0, 0, 9, 9);
        follows(x, 5, 0, 3, 0, 0, 9, 9, 9);
        follows(x, 5, 0, -9, 8, 0, 9, 9, 8);
        follows(x, 5, 0, -9, 10, 0, 9, 9, 12);
        follows(x, 6, 0, 0, 10, 0);
        x.pass(3);
        follows(x, 5, 0, 0, 10, 0);
        follows(x, 4, 0, -9, 0, 0, 9, 9, 9);
        follows(x, 4, 0, 4, 0, 0, 9, 9, 9, 9);
        x = Due.river("r1;fg00r03;");
        follows(x, 3, 0, 0, 10, 0);
        follows(x, 2, 0, -9, 0, 0, 9, 9, 9);
        follows(x, 2, 0, 4, 0, 0, 9, 9, 9, 9);
    }

    /** Each call has its own load and cell, whatever the one before it had. */
    private static void eachOfItsOwnLoad() {
        FloeToFloe x = Due.river("r1;fh00r05;");
        Due.row(x, 0, 8);
        for (int round = 0; round < 2; round++) {
            Due.is("load 6 ends on the bank", x.ends(6, 0), 10);
            Due.is("load 5 ends over there", x.ends(5, 0), 8);
            Due.is("load 5 from too far", x.ends(5, 2), 12);
            Due.is("load 6 is judged", x.judge(6, 0), 0);
            Due.is("load 5 is judged", x.judge(5, 0), -9);
            Due.is("load 6 is judged again", x.judge(6, 0), 0);
            Due.is("load 5 ends over there, behind load 6", x.ends(5, 0), 8);
            Due.is("all poles", x.poles(6, 0), -9);
            Due.is("load 5 is judged, behind poles", x.judge(5, 0), -9);
        }
    }

    private static void judgeBehindTheNorthBank() {
        FloeToFloe x = Due.river("r1;fh00r09;");
        for (int act = 0; act <= 12; act++) {
            follows(x, 1, 0, 2, 8, 0, 8, act);
            follows(x, 1, 0, 3, 8, 9, 0, 8, act, 9, 9);
        }
    }

    private static void twelveActs() {
        FloeToFloe x = Due.river("r1;fh00r09;m60;");
        follows(x, 1, 0, -9, 8, 10, 9, 11, 9, 9, 9, 9, 9, 9, 9, 0, 8);
        follows(x, 1, 0, 11, 0, 10, 9, 11, 9, 9, 9, 9, 9, 9, 9, 0, 11);
        x = new FloeToFloe();
        follows(x, 1, 3, -9, 13);
        follows(x, 1, 3, -9, 13, 9);
        follows(x, 1, 3, 0, 13, 0);
    }

    private static void refusals() {
        FloeToFloe x = new FloeToFloe();
        Due.is("judge(0, -1)", x.judge(0, -1), -1);
        Due.is("judge(10, 10)", x.judge(10, 10), -1);
        Due.is("judge(0, 0)", x.judge(0, 0), -4);
        Due.is("judge(10, 0)", x.judge(10, 0), -6);
        Due.is("ends(0, -1)", x.ends(0, -1), -1);
        Due.is("ends(10, 10)", x.ends(10, 10), -1);
        Due.is("ends(0, 9)", x.ends(0, 9), -4);
        Due.is("ends(10, 9)", x.ends(10, 9), -6);
        Due.is("ends(9, 9)", x.ends(9, 9), 19);
        Due.is("refusals -1", x.count(11), 4);
        Due.is("refusals -4", x.count(14), 2);
        Due.is("refusals -6", x.count(16), 2);
    }

    private static void clear() {
        FloeToFloe x = new FloeToFloe();
        Due.is("clear() of none", x.clear(), 0);
        Due.row(x, 1, 2, 3);
        Due.is("clear()", x.clear(), 3);
        Due.is("in the row", x.count(3), 0);
        Due.is("fitting(0)", x.fitting(0), 0);
        Due.is("clear() again", x.clear(), 0);
        Due.is("row(4)", x.row(4), 1);
        Due.is("fitting(0) of one", x.fitting(0), 15);
    }

    private static void follows(FloeToFloe x, int load, int cell, int judged, int end, int... acts) {
        Due.row(x, acts);
        String row = java.util.Arrays.toString(acts);
        Due.is("judge(" + load + ", " + cell + ") of " + row, x.judge(load, cell), judged);
        Due.is("ends(" + load + ", " + cell + ") of " + row, x.ends(load, cell), end);
        Due.is("the row stays", x.count(3), acts.length);
    }
}
