/**
 * The sentences of "Terms" and of the part "==== II." that name a bound, in the document's order, each on both
 * sides: the last that is so and the first that is not. The bounds of arguments stand in RefusedTest.
 */
public final class BoundsTest {
    // From minute 13 and some cells it is 41 minutes to the north bank, from minute 14 on 40.
    private static final String LONG_WAY = "r5;ff04l25;ft17l29;ft24l24;ff34l13;ft44l15;ft04l23;ff18l22;";
    // Leaping to and fro between lanes 1 and 2, or, with load 9 from minute 48 on, straight over floe 6.
    private static final String SHORTER_LATE = "r4;fh00r09;fh11r09;fh22r09;fh13r09;fh24r09;fh35r09;fs32r01;";

    public static void main(String[] args) {
        lanes();
        banks();
        cellsAreRound();
        eightFloes();
        cellInMinuteNought();
        paces();
        strengths();
        minutes();
        eightyLetters();
        digits();
        atLeastOneStatement();
        placesOfFaults();
        kindOneComesFirst();
        firstStatementBehindAllAhead();
        allOrNothing();
        melting();
        grinding();
        turning();
        swelling();
        twoMinutesToBear();
        whereOneCanLeap();
        fortyMinutes();
        fortyMinutesOfAWay();
        shortestAndLongestWays();
        reach();
        longestWait();
        heaviest();
        needed();
        poles();
        from();
        byNow();
        next();
        crowd();
        rowOfTwelve();
        fitting();
        judged();
        ends();
        seeds();
        image();
        Due.end();
    }

    /** "LANES (1 .. 5: 3 at first)", "no such LANE", "LANES less than a FLOE has". */
    private static void lanes() {
        told("r1;", 1);
        told("r0;", -2000);
        told("r5;", 1);
        told("r6;", -2000);
        told("ff20r01;", 1);
        told("ff30r01;", -2000);
        for (int lanes = 1; lanes <= 5; lanes++) {
            String text = "r" + lanes + ";";
            told(text + "ff" + (lanes - 1) + "0r01;", 2);
            told(text + "ff" + lanes + "0r01;", -2003);
        }
        for (int lane = 1; lane <= 4; lane++) {
            String text = "r5;ff" + lane + "0r01;";
            told(text + "r" + (lane + 1) + ";", 3);
            told(text + "r" + lane + ";", -2011);
        }
        told("ff00r01;r1;", 2);
        told("ff00r01;r0;", -2008);
    }

    /** "lane 0 beside the south bank, the last one beside the north bank". */
    private static void banks() {
        for (int lanes = 1; lanes <= 5; lanes++) {
            StringBuilder text = new StringBuilder("r" + lanes + ";");
            for (int lane = 0; lane < lanes; lane++) {
                text.append("fh").append(lane).append("0r09;");
            }
            FloeToFloe x = Due.river(text.toString());
            Due.is(text + " soonest", x.soonest(9, 0), lanes + 1);
            Due.is(text + " leaps", x.leaps(9, 0), lanes + 1);
            for (int lane = 0; lane < lanes; lane++) {
                int[] acts = new int[lane + 2];
                for (int f = 0; f <= lane; f++) {
                    acts[f] = f;
                }
                acts[lane + 1] = 8;
                follows(x, text + " to the north from lane " + lane, lane == lanes - 1 ? -9 : lane + 1,
                        lane == lanes - 1 ? 8 : lane, acts);
                acts[lane + 1] = 12;
                follows(x, text + " to the south from lane " + lane, lane == 0 ? -9 : lane + 1, lane == 0 ? 10 : lane, acts);
                if (lane > 0) {
                    follows(x, text + " from the south to lane " + lane, 0, 10, lane);
                }
            }
        }
        FloeToFloe x = Due.river("r1;fh00r09;");
        Due.is("the only lane is the last one", x.soonest(9, 0), 2);
        Due.tell(x, "r2;");
        Due.is("with a lane more it is not", x.soonest(9, 0), -9);
        Due.tell(x, "r1;");
        Due.is("with a lane less it is again", x.soonest(9, 0), 2);
    }

    /** "each a round of 10 CELLS (cell 9 is beside 0)". */
    private static void cellsAreRound() {
        FloeToFloe x = new FloeToFloe();
        Due.row(x, 10);
        Due.is("less than 0 is 9", x.ends(1, 0), 19);
        Due.is("less than 1 is 0", x.ends(1, 1), 10);
        Due.is("less than 9 is 8", x.ends(1, 9), 18);
        Due.row(x, 11);
        Due.is("greater than 9 is 0", x.ends(1, 9), 10);
        Due.is("greater than 8 is 9", x.ends(1, 8), 19);
        Due.is("greater than 0 is 1", x.ends(1, 0), 11);
        for (int held = 0; held < 10; held++) {
            x = Due.river("r2;fh0" + held + "r09;");
            Due.row(x, 0);
            for (int cell = 0; cell < 10; cell++) {
                boolean near = distance(held, cell) <= 1;
                Due.is("from cell " + cell + " to a floe at " + held, x.judge(1, cell), near ? -9 : 0);
            }
            for (int other = 0; other < 10; other++) {
                FloeToFloe two = Due.river("r2;fh0" + held + "r09;fh1" + other + "r09;");
                boolean near = distance(held, other) <= 1;
                Due.is("from a floe at " + held + " to one at " + other, two.next(0), near ? 2 : 0);
                Due.is("and back", two.next(1), near ? 1 : 0);
            }
        }
        moves("ff09r11;", 9, 0, 1);
        moves("ff08r21;", 8, 0, 2);
        moves("ff09r21;", 9, 1, 3);
        moves("ff00l11;", 0, 9, 8);
        moves("ff00l21;", 0, 8, 6);
        moves("ff01l21;", 1, 9, 7);
        moves("ff01l11;", 1, 0, 9);
        moves("ff08r11;", 8, 9, 0);
        Due.is("twelve rounds to the left", Due.river("ff03l11;").is(0, 120), 3);
        Due.is("and a cell less", Due.river("ff03l11;").is(0, 119), 4);
        Due.is("24 rounds to the right", Due.river("ff03r21;").is(0, 120), 3);
        Due.is("and two cells less", Due.river("ff03r21;").is(0, 119), 1);
    }

    /** "FLOES 0 .. 7 as they come (8 at most)", "no room for more". */
    private static void eightFloes() {
        FloeToFloe x = new FloeToFloe();
        for (int f = 0; f < 8; f++) {
            Due.is("floe " + f + " is not there yet", x.floe(f, 2), -1);
            Due.is("floe " + f, Due.tell(x, "ff0" + f + "r01;"), 1);
            Due.is("floe " + f + " as it came", x.floe(f, 2), f);
            Due.is("floes", x.count(1), f + 1);
        }
        Due.is("a ninth", Due.tell(x, "ff09r01;"), -2000);
        Due.is("a ninth behind others", Due.tell(x, "r5;m9;ff09r01;"), -2006);
        Due.is("without it", Due.tell(x, "r5;m9;"), 2);
        Due.is("floes", x.count(1), 8);
        told("ff00r01;ff00r01;ff00r01;ff00r01;ff00r01;ff00r01;ff00r01;ff00r01;", 8);
        told("ff00r01;ff00r01;ff00r01;ff00r01;ff00r01;ff00r01;ff00r01;ff00r01;ff00r01;", -2064);
    }

    /** "CELL (in MINUTE 0)", "where they ARE now". */
    private static void cellInMinuteNought() {
        FloeToFloe x = Due.river("m7;ff05r11;m9;");
        Due.is("told in minute 7, asked in 9: minute 0", x.is(0, 0), 5);
        Due.is("minute 9", x.is(0, 9), 4);
        Due.is("told as it was", x.floe(0, 2), 5);
    }

    /** "PACE (-2 .. 2)". */
    private static void paces() {
        String[] sides = {"l", "r"};
        int[][] due = {{2, 1, 0}, {2, 3, 4}};
        for (int s = 0; s < sides.length; s++) {
            for (int pace = 0; pace <= 2; pace++) {
                told("ff00" + sides[s] + pace + "1;", 1);
                Due.is("pace " + sides[s] + pace, Due.river("ff00" + sides[s] + pace + "1;").floe(0, 3), due[s][pace]);
            }
            for (int pace = 3; pace <= 9; pace++) {
                told("ff00" + sides[s] + pace + "1;", -2000);
            }
        }
    }

    /** "BEARS (1 .. 9)". */
    private static void strengths() {
        told("ff00r00;", -2000);
        told("ff00r01;", 1);
        told("ff00r09;", 1);
        told("ff00r010;", -1007);
        Due.is("bears 1", Due.river("ff00r01;").bears(0, 0), 1);
        Due.is("bears 9", Due.river("ff00r09;").bears(0, 0), 9);
    }

    /** "MINUTE (0 .. 60: 0 at first)". */
    private static void minutes() {
        Due.is("at first", new FloeToFloe().count(2), 0);
        for (int minute = 0; minute <= 99; minute++) {
            String text = "m" + minute / 10 + minute % 10 + ";";
            told(text, minute <= 60 ? 1 : -2000);
            Due.is(text, Due.river(text).count(2), minute <= 60 ? minute : 0);
        }
    }

    /** "told in letters, one by one (80 at most)". */
    private static void eightyLetters() {
        StringBuilder text = new StringBuilder();
        for (int i = 0; i < 20; i++) {
            text.append("m").append(i / 10).append(i % 10).append(';');
        }
        told(text.toString(), 20);
        FloeToFloe x = new FloeToFloe();
        for (int i = 0; i < 80; i++) {
            Due.is("letter " + (i + 1), x.letter(text.charAt(i)), i + 1);
        }
        Due.is("the 81st", x.letter('x'), -6);
        Due.is("without the 81st", x.river(), 20);
        Due.is("its minute", x.count(2), 19);
        // Of these 81 letters the last does not come: the end is behind the 80th.
        told("m00;m01;m02;m03;m04;m05;m06;m07;m08;m09;m10;m11;m12;m13;m14;m15;m16;m17;m1;ff00r0", -1080);
        told("m00;m01;m02;m03;m04;m05;m06;m07;m08;m09;m10;m11;m12;m13;m14;m15;m16;m17;ff00r01;", 19);
        told("m00;m01;m02;m03;m04;m05;m06;m07;m08;m09;m10;m11;m12;m13;m14;m15;m16;m17;ff00r00;", -2072);
        told("m00;m01;m02;m03;m04;m05;m06;m07;m08;m09;m10;m11;m12;m13;m14;m15;m16;m17;ff00r01x", -1079);
    }

    /** "(a digit)", "(1 or 2 digits)", "Numbers may begin with 0". */
    private static void digits() {
        told("m;", -1001);
        told("m0;", 1);
        told("m00;", 1);
        told("m000;", -1003);
        told("m060;", -1003);
        told("r;", -1001);
        told("r3;", 1);
        told("r03;", -1002);
        Due.is("m05 is 5", Due.river("m05;").count(2), 5);
        for (String text : new String[] {"r/;", "r:;", "m/;", "m:;", "m1/;", "m1:;"}) {
            told(text, -1000 - text.length() + 2);
        }
        told("ff/0r01;", -1002);
        told("ff:0r01;", -1002);
        told("ff0/r01;", -1003);
        told("ff0:r01;", -1003);
        told("ff00r/1;", -1005);
        told("ff00r:1;", -1005);
        told("ff00r0/;", -1006);
        told("ff00r0:;", -1006);
    }

    /** "At least one STATEMENT". */
    private static void atLeastOneStatement() {
        told("", -1000);
        told("r3;", 1);
        FloeToFloe x = Due.river("r3;");
        Due.is("the letters are no more: none again", x.river(), -1000);
    }

    /** "the place of the first letter with which no RIVER can go on (the end, if something lacks)". */
    private static void placesOfFaults() {
        told("x", -1000);
        told("rx", -1001);
        told("r1x", -1002);
        told("r1;x", -1003);
        told("r1", -1002);
        told("r", -1001);
        told("r1;r1;r1;r1;r1;r1;r1;r1;r1;r1;r1;r1;r1;r1;r1;r1;r1;r1;r1;r1;r1;r1;r1;r1;r1;r1;m1", -1080);
        told("r1;r1;r1;r1;r1;r1;r1;r1;r1;r1;r1;r1;r1;r1;r1;r1;r1;r1;r1;r1;r1;r1;r1;r1;r1;r1;mx", -1079);
        told("r1;r1;r1;r1;r1;r1;r1;r1;r1;r1;r1;r1;r1;r1;r1;r1;r1;r1;r1;r1;r1;r1;r1;r1;m00;m61;", -2076);
    }

    /** "kind 1 ..; else kind 2". */
    private static void kindOneComesFirst() {
        told("r0;", -2000);
        told("r0;r", -1004);
        told("r0;m61;ff99l90;x", -1015);
        told("r0;m61;ff99l90;", -2000);
    }

    /** "the first STATEMENT that, behind all ahead of it in the text, is not as it must be". */
    private static void firstStatementBehindAllAhead() {
        told("r5;ff40r01;", 2);
        told("ff40r01;r5;", -2000);
        told("r2;ff20r01;", -2003);
        told("ff20r01;r2;", -2008);
        told("r2;r5;ff40r01;", 3);
        told("r0;m61;", -2000);
        told("r1;m61;r0;", -2003);
        FloeToFloe x = Due.river("r1;ff00r01;");
        Due.is("behind the river that was: no such lane", Due.tell(x, "ff10r01;"), -2000);
        Due.is("but behind two lanes", Due.tell(x, "r2;ff10r01;"), 2);
        Due.is("behind the floe that is in lane 1", Due.tell(x, "m1;r1;"), -2003);
    }

    /** "Without FAULT all of it comes, with one nothing." */
    private static void allOrNothing() {
        FloeToFloe x = Due.river("r4;ff30r02;m3;");
        String ahead = "r5;m4;ff40r01;";
        for (String fault : new String[] {"r", "m61;", "r4;", ";"}) {
            Due.isTrue("a fault at the end: " + fault, Due.tell(x, ahead + fault) < 0);
            Due.is("lanes", x.count(0), 4);
            Due.is("floes", x.count(1), 1);
            Due.is("minute", x.count(2), 3);
            Due.is("letters", x.count(4), 0);
            Due.is("what all bear", x.count(5), 2);
        }
        Due.is("without a fault", Due.tell(x, ahead), 3);
        Due.is("lanes then", x.count(0), 5);
        Due.is("floes then", x.count(1), 2);
        Due.is("minute then", x.count(2), 4);
        Due.is("what all bear then", x.count(5), 3);
    }

    /** "a FLOE's less m by 4, cut, 0 at least". */
    private static void melting() {
        for (int told = 1; told <= 9; told++) {
            FloeToFloe x = Due.river("fm00r0" + told + ";");
            for (int times = 1; times <= told; times++) {
                Due.is("bears " + told + ", minute " + (4 * times - 1), x.bears(0, 4 * times - 1), told - times + 1);
                Due.is("bears " + told + ", minute " + 4 * times, x.bears(0, 4 * times), told - times);
            }
            Due.is("0 at least, where it would be 1 less", x.bears(0, 4 * told + 4), 0);
            Due.is("0 at least in minute 120", x.bears(0, 120), 0);
        }
    }

    /** "a MELTING's, in odd MINUTES 1 less, 0 at least". */
    private static void grinding() {
        FloeToFloe x = Due.river("fg00r02;");
        int[] due = {2, 1, 2, 1, 1, 0, 1, 0, 0, 0, 0, 0, 0};
        for (int minute = 0; minute < due.length; minute++) {
            Due.is("grinding, minute " + minute, x.bears(0, minute), due[minute]);
        }
        Due.is("0 at least in an odd minute", x.bears(0, 119), 0);
        Due.is("0 at least in an even minute", x.bears(0, 120), 0);
        x = Due.river("fg00r01;");
        Due.is("bears 1, minute 0", x.bears(0, 0), 1);
        Due.is("bears 1, minute 1", x.bears(0, 1), 0);
    }

    /** "it IS at CELL and PACE times 0, 1, 2, 3, 2, 1 (as m modulo 6 is 0 .. 5)". */
    private static void turning() {
        FloeToFloe x = Due.river("ft02r11;ft08r21;ft01l21;");
        int[][] due = {{2, 3, 4, 5, 4, 3}, {8, 0, 2, 4, 2, 0}, {1, 9, 7, 5, 7, 9}};
        for (int f = 0; f < due.length; f++) {
            for (int minute = 0; minute <= 120; minute++) {
                Due.is("turning floe " + f + ", minute " + minute, x.is(f, minute), due[f][minute % 6]);
            }
        }
    }

    /** "a FLOE's and m by 6, cut". */
    private static void swelling() {
        FloeToFloe x = Due.river("fs00r09;");
        Due.is("minute 5", x.bears(0, 5), 9);
        Due.is("minute 6", x.bears(0, 6), 10);
        Due.is("minute 11", x.bears(0, 11), 10);
        Due.is("minute 12", x.bears(0, 12), 11);
        Due.is("minute 119", x.bears(0, 119), 28);
        Due.is("minute 120", x.bears(0, 120), 29);
    }

    /** "Where he is a MINUTE later on a FLOE, that must BEAR his LOAD in both MINUTES." */
    private static void twoMinutesToBear() {
        FloeToFloe x = Due.river("r2;fm00r05;fm10r05;");
        follows(x, 5, "on it as long as it bears: minutes 0 .. 3", -9, 0, 0, 9, 9);
        follows(x, 5, "not into minute 4", 3, 0, 0, 9, 9, 9);
        follows(x, 5, "nor onto another one", 3, 0, 0, 9, 9, 1);
        follows(x, 5, "off it to the bank: that bears", -9, 10, 0, 9, 9, 12);
        follows(x, 4, "load 4 stays", -9, 0, 0, 9, 9, 9, 9, 9, 9);
        follows(x, 4, "load 4 not into minute 8", 7, 0, 0, 9, 9, 9, 9, 9, 9, 9);
        follows(x, 5, "onto another one in minute 2", -9, 1, 0, 9, 1);
        x = Due.river("r1;fs00r04;m5;");
        follows(x, 5, "it has to bear in the minute of the leap too", 0, 10, 0);
        follows(x, 4, "load 4 can", -9, 0, 0);
        x.pass(1);
        follows(x, 5, "a minute later it does", -9, 0, 0);
        follows(x, 6, "but not load 6", 0, 10, 0);
        x = Due.river("r1;fg00r09;");
        follows(x, 9, "grinding bears 9 and 8", 0, 10, 0);
        follows(x, 8, "load 8", -9, 0, 0);
    }

    /** "at his CELL or beside it", "in a LANE beside", "(at the CELL where it IS)". */
    private static void whereOneCanLeap() {
        FloeToFloe x = Due.river("r4;fh02r09;fh12r09;fh22r09;fh03r09;fh14r09;");
        Due.is("lane 0: lane 1, not lane 0 nor 2, not two cells off", x.next(0), 2);
        Due.is("lane 0, a cell more", x.next(3), 2 + 16);
        Due.is("lane 1: lanes 0 and 2, not 1", x.next(1), 1 + 4 + 8);
        Due.is("lane 2: lane 1, not 0", x.next(2), 2);
        for (int cell = 0; cell < 10; cell++) {
            FloeToFloe one = Due.river("r1;fh05r09;");
            Due.row(one, 0, 12);
            boolean near = cell >= 4 && cell <= 6;
            Due.is("ashore at the cell where it is, from " + cell, one.ends(1, cell), near ? 15 : 10 + cell);
        }
    }

    /** "in 40 MINUTES at most", each call that asks whether he comes over. */
    private static void fortyMinutes() {
        // It bears 9 from minute 48 on: a leap onto it in minute 48, over in 50.
        for (int minute = 9; minute <= 10; minute++) {
            boolean over = minute == 10;
            FloeToFloe x = Due.river("r1;fs00r01;m" + minute + ";");
            String at = "minute " + minute + ": ";
            Due.is(at + "soonest", x.soonest(9, 0), over ? 40 : -9);
            Due.is(at + "leaps", x.leaps(9, 0), over ? 2 : -9);
            Due.is(at + "reach in 40", x.reach(9, 0, 40), over ? 512 + 256 + 1 : 512 + 1);
            Due.is(at + "reach in 39", x.reach(9, 0, 39), over ? 512 + 1 : 512);
            Due.is(at + "reach in 38", x.reach(9, 0, 38), 512);
            Due.is(at + "heaviest", x.heaviest(0), over ? 9 : 8);
            Due.is(at + "needed", x.needed(9, 0), over ? 1 : 0);
            Due.is(at + "poles", x.poles(9, 0), over ? 0 : -9);
            Due.is(at + "from", x.from(9), over ? 1023 : 0);
            Due.is(at + "seeds", x.seeds(1, seedOf(9)), over ? 1 : 0);
        }
    }

    /** "in 40 MINUTES at most", where the way itself takes so long, and where a way of fewer leaps does. */
    private static void fortyMinutesOfAWay() {
        FloeToFloe x = Due.river(LONG_WAY + "m13;");
        Due.is("41 minutes: soonest", x.soonest(1, 4), -9);
        Due.is("41 minutes: leaps", x.leaps(1, 4), -9);
        Due.is("41 minutes: reach", x.reach(1, 4, 40) & 256, 0);
        Due.is("41 minutes: from, but for cells 4 .. 7", x.from(1), 1023 - 16 - 32 - 64 - 128);
        x.pass(1);
        Due.is("40 minutes: soonest", x.soonest(1, 4), 40);
        Due.is("40 minutes: leaps", x.leaps(1, 4), 6);
        Due.is("40 minutes: reach", x.reach(1, 4, 40) & 256, 256);
        Due.is("39 minutes: reach", x.reach(1, 4, 39) & 256, 0);
        Due.is("40 minutes: from", x.from(1), 1023);
        x = Due.river(SHORTER_LATE + "m9;");
        Due.is("the shorter way takes 41 minutes: leaps", x.leaps(9, 0), 7);
        Due.is("the shorter way takes 41 minutes: needed", x.needed(9, 0), 63);
        x.pass(1);
        Due.is("the shorter way takes 40 minutes: leaps", x.leaps(9, 0), 5);
        Due.is("the shorter way takes 40 minutes: needed", x.needed(9, 0), 7);
        Due.is("though the longer one is sooner", x.soonest(9, 0), 7);
    }

    /** The least MINUTES and leaps are 2: onto a FLOE and off it; all FLOES may be needed. */
    private static void shortestAndLongestWays() {
        FloeToFloe x = Due.river("r1;fh00r01;m60;");
        Due.is("soonest", x.soonest(1, 0), 2);
        Due.is("leaps", x.leaps(1, 0), 2);
        Due.is("the farthest cell", x.soonest(1, 5), 6);
        Due.is("its leaps", x.leaps(1, 5), 2);
        // There and back between lanes 1 and 2: all eight floes, one leap each, and one ashore.
        x = Due.river("r4;fh00r01;fh11r01;fh22r01;fh13r01;fh24r01;fh15r01;fh26r01;fh37r01;");
        Due.is("over eight floes: leaps", x.leaps(1, 0), 9);
        Due.is("over eight floes: soonest", x.soonest(1, 0), 9);
        Due.is("over eight floes: needed", x.needed(1, 0), 255);
        Due.is("over eight floes: places behind 8 minutes", x.reach(1, 0, 8), 512 + 255);
        Due.is("over eight floes: places behind 9 minutes", x.reach(1, 0, 9), 1023);
    }

    /** "REACH behind n MINUTES (0 .. 40)", "256 more for the north bank (that is not left any more), 512 the south bank". */
    private static void reach() {
        FloeToFloe x = Due.river("r1;fm00r01;");
        Due.is("behind 0", x.reach(1, 0, 0), 512);
        Due.is("behind 1", x.reach(1, 0, 1), 512 + 1);
        Due.is("behind 2", x.reach(1, 0, 2), 512 + 256 + 1);
        Due.is("behind 3, the last on the floe", x.reach(1, 0, 3), 512 + 256 + 1);
        Due.is("behind 4, the north bank was not left", x.reach(1, 0, 4), 512 + 256);
        Due.is("behind 40", x.reach(1, 0, 40), 512 + 256);
        Due.is("an empty river, behind 40", new FloeToFloe().reach(1, 0, 40), 512);
    }

    /** "the most MINUTES (0 .. 40) that he can stay ..; -9 he can not at all". */
    private static void longestWait() {
        // Load 1 leaps onto it in minute 2 at last, as it bears 1 in minute 3 and nobody in minute 4.
        FloeToFloe x = Due.river("r1;fm00r01;");
        for (int minute = 0; minute <= 2; minute++) {
            Due.is("minute " + minute + ": await", x.await(1, 0), 2 - minute);
            x.pass(1);
        }
        Due.is("minute 3: await", x.await(1, 0), -9);
        Due.is("it bears 1 up to minute 35", Due.river("r1;fm00r09;").await(1, 0), 34);
        Due.is("it swells: await", Due.river("r1;fs00r09;").await(9, 0), 40);
        // It bears 9 from minute 48 on: waiting 10 comes over in 40 from then on, waiting 9 does not.
        x = Due.river("r1;fs00r01;");
        Due.is("40 minutes from then on", x.await(9, 0), 40);
        Due.is("not from now on", x.soonest(9, 0), -9);
        Due.is("an empty river", new FloeToFloe().await(1, 0), -9);
        // In minutes 12, 13, 42 and 43 it is more than 40 minutes from cell 6 to the north bank.
        int[] due = {40, 40, 39, 38, 40};
        x = Due.river(LONG_WAY);
        for (int minute = 0; minute < due.length; minute++) {
            Due.is("a long way, minute " + minute, x.await(1, 6), due[minute]);
            x.pass(1);
        }
        x = Due.river(LONG_WAY + "m13;");
        Due.is("he does not come over without waiting, but he does with 40", x.await(1, 6), 40);
        waitsAreMinutes(LONG_WAY);
        waitsAreMinutes(SHORTER_LATE);
        waitsAreMinutes("r2;fm00r09;fs10r01;");
    }

    /** To wait so long and come over is to come over from that minute on. */
    private static void waitsAreMinutes(String text) {
        boolean[][] over = new boolean[61][10];
        for (int minute = 0; minute <= 60; minute++) {
            FloeToFloe x = Due.river(text + "m" + minute + ";");
            for (int cell = 0; cell < 10; cell++) {
                over[minute][cell] = x.soonest(3, cell) > 0;
            }
        }
        for (int minute = 0; minute <= 20; minute++) {
            FloeToFloe x = Due.river(text + "m" + minute + ";");
            for (int cell = 0; cell < 10; cell++) {
                int longest = -9;
                for (int wait = 0; wait <= 40; wait++) {
                    longest = over[minute + wait][cell] ? wait : longest;
                }
                Due.is(text + " minute " + minute + ": await(3, " + cell + ")", x.await(3, cell), longest);
            }
        }
    }

    /** "the greatest LOAD that comes over; 0 none". */
    private static void heaviest() {
        for (int told = 1; told <= 9; told++) {
            FloeToFloe x = Due.river("r1;fh00r0" + told + ";");
            Due.is("bears " + told, x.heaviest(0), told);
            Due.is("that load comes over", x.soonest(told, 0), 2);
            if (told < 9) {
                Due.is("one more does not", x.soonest(told + 1, 0), -9);
            }
        }
        Due.is("one that bears 15", Due.river("r1;fs00r09;m36;").heaviest(0), 9);
        Due.is("one that grinds 1 to 0", Due.river("r1;fg00r01;").heaviest(0), 0);
        Due.is("an empty river", new FloeToFloe().heaviest(0), 0);
    }

    /** "FLOES (bits) without each of which alone he does not come over; 0, if he does not with all". */
    private static void needed() {
        Due.is("all eight", Due.river("r4;fh00r01;fh11r01;fh22r01;fh13r01;fh24r01;fh15r01;fh26r01;fh37r01;").needed(1, 0), 255);
        Due.is("he does not with all", Due.river("r2;fh00r09;").needed(1, 0), 0);
        Due.is("he does without any one", Due.river("r1;fh00r09;fh00r09;").needed(9, 0), 0);
        Due.is("an empty river", new FloeToFloe().needed(1, 0), 0);
    }

    /** "the one of fewest, of several the least bits; -9". */
    private static void poles() {
        Due.is("none has to be held", Due.river("r1;fh00r09;").poles(9, 0), 0);
        Due.is("none helps", Due.river("r2;fh00r09;fh12r09;").poles(9, 0), -9);
        Due.is("one of two: the least bits", Due.river("r2;ff00r19;ff15r19;").poles(9, 0), 1);
        // Floes 0 and 1 together let him over too, and are less bits, but floe 2 alone is fewer.
        FloeToFloe x = Due.river("r3;ff00r19;ff20r19;ff15r19;");
        Due.is("one is fewer than two of less bits", x.poles(9, 0), 4);
        Due.is("two", Due.river("r4;ff00r19;ff15r19;ff20r19;ff35r19;").poles(9, 0), 1 + 4);
        x = Due.river("r2;ft00r19;ft14r19;");
        Due.is("held where they are now: minute 0", x.poles(9, 0), 2);
        x.pass(1);
        Due.is("held where they are now: minute 1", x.poles(9, 0), -9);
        Due.is("an empty river", new FloeToFloe().poles(1, 0), -9);
    }

    /** "CELLS of the south bank (bits) from which one comes over". */
    private static void from() {
        // On in minute 2 at last: at most two cells to walk ahead of the leap from beside it.
        Due.is("cell 9 and cell 0 too", Due.river("r1;fm09r05;").from(5), 512 + 256 + 128 + 64 + 1 + 2 + 4);
        Due.is("three cells off, not four", Due.river("r1;fm05r05;").from(5), 4 + 8 + 16 + 32 + 64 + 128 + 256);
        Due.is("all", Due.river("r1;fh05r05;").from(5), 1023);
        Due.is("none", Due.river("r1;fh05r05;").from(6), 0);
    }

    /** "n MINUTES ago (MINUTE not less than n)". */
    private static void byNow() {
        FloeToFloe x = Due.river("r2;fh00r09;fh10r09;");
        Due.is("minute 0, 0 ago", x.byNow(1, 1, 0), 2);
        Due.is("minute 0, 1 ago", x.byNow(1, 1, 1), -6);
        x.pass(1);
        Due.is("minute 1, 1 ago", x.byNow(1, 1, 1), 3);
        Due.is("minute 1, 2 ago", x.byNow(1, 1, 2), -6);
        x.pass(59);
        Due.is("minute 60, 60 ago", x.byNow(1, 1, 60), 3);
        Due.is("minute 60, 61 ago", x.byNow(1, 1, 61), -6);
        Due.is("minute 60, 0 ago", x.byNow(1, 1, 0), 2);
        x = Due.river("r1;fm00r01;m60;");
        Due.is("he was there, it bears nobody: 0 ago", x.byNow(9, 0, 0), 1);
        Due.is("he was there, it bears nobody: 1 ago", x.byNow(9, 0, 1), 0);
    }

    /** "FLOES (bits) to which one can leap from it in a MINUTE (whatever they BEAR)". */
    private static void next() {
        FloeToFloe x = Due.river("r2;fh00r01;fm10r01;fm11r01;fm19r01;fm12r01;fm18r01;fm10r01;fm10r01;m60;");
        Due.is("those near it, which bear 0", x.next(0), 2 + 4 + 8 + 64 + 128);
        Due.is("one that bears 0 itself", x.next(7), 1);
        Due.is("alone", Due.river("fh00r09;").next(0), 0);
    }

    /** "how many FLOES ARE in one LANE at one CELL with another one in a MINUTE". */
    private static void crowd() {
        Due.is("none", new FloeToFloe().crowd(0), 0);
        Due.is("one alone", Due.river("ff00r01;").crowd(0), 0);
        Due.is("two at one cell", Due.river("ff00r01;ff00r01;").crowd(0), 2);
        Due.is("two in two lanes", Due.river("ff00r01;ff10r01;").crowd(0), 0);
        Due.is("two beside", Due.river("ff00r01;ff09r01;").crowd(0), 0);
        Due.is("all eight", Due.river("ff00r01;ff00r01;ff00r01;ff00r01;ff15r01;ff15r01;ff29r01;ff29r01;").crowd(0), 8);
        FloeToFloe x = Due.river("ff00r11;fh00r01;");
        Due.is("minute 119", x.crowd(119), 0);
        Due.is("minute 120", x.crowd(120), 2);
    }

    /** "a ROW of numbers (0 .. 12; 12 at most)". */
    private static void rowOfTwelve() {
        FloeToFloe x = new FloeToFloe();
        for (int v = 0; v <= 12; v++) {
            Due.is("row(" + v + ")", x.row(v), v < 12 ? v + 1 : -6);
        }
        Due.is("without the 13th", x.count(3), 12);
        Due.is("clear()", x.clear(), 12);
        Due.is("row(12)", x.row(12), 1);
        Due.is("row(13)", x.row(13), -6);
        Due.is("row(-1)", x.row(-1), -4);
        Due.is("row(0)", x.row(0), 2);
    }

    /** "(0 without a ROW, a number of it above 9)", "(1; -9)". */
    private static void fitting() {
        FloeToFloe x = new FloeToFloe();
        fits(x, 0, -9);
        fits(x, 15, 0, 9);
        fits(x, 0, -9, 10);
        fits(x, 7, 2, 9, 9);
        fits(x, 0, -9, 9, 10);
        fits(x, 0, -9, 9, 12);
        // Past the first cell and the last one, to the right and the left.
        fits(x, 2, 3, 9, 0);
        fits(x, 2, 1, 0, 9);
        fits(x, 2, 4, 9, 1);
        fits(x, 2, 0, 1, 9);
        fits(x, 0, -9, 0, 3);
        fits(x, 0, -9, 0, 7);
        fits(x, 2, 4, 0, 2);
        fits(x, 2, 0, 0, 8);
        // Up to minute 3 a turning one goes as a floe; from minute 4 on it does not.
        fits(x, 2, 3, 0, 1, 2, 3);
        fits(x, 1, 3, 0, 1, 2, 3, 4);
        fits(x, 1, 13, 0, 1, 2, 3, 2);
        // Twelve numbers: the last one decides.
        fits(x, 1, 3, 0, 1, 2, 3, 4, 5, 6, 7, 8, 9, 0, 1);
        fits(x, 0, -9, 0, 1, 2, 3, 4, 5, 6, 7, 8, 9, 0, 2);
        fits(x, 1, 13, 0, 1, 2, 3, 2, 1, 0, 1, 2, 3, 2, 1);
        fits(x, 0, -9, 0, 1, 2, 3, 2, 1, 0, 1, 2, 3, 2, 3);
        fits(x, 7, 2, 0, 0, 0, 0, 0, 0, 0, 0, 0, 0, 0, 0);
        fits(x, 0, -9, 0, 0, 0, 0, 0, 0, 0, 0, 0, 0, 0, 1);
    }

    /** "the first that he MAY not (also behind the north bank); -9". */
    private static void judged() {
        FloeToFloe x = Due.river("r1;fh00r09;");
        follows(x, "an empty row", -9, 10);
        follows(x, "the first", 0, 10, 12);
        follows(x, "none", -9, 10, 9);
        follows(x, "the twelfth", 11, 10, 9, 9, 9, 9, 9, 9, 9, 9, 9, 9, 9, 12);
        follows(x, "none of twelve", -9, 10, 9, 9, 9, 9, 9, 9, 9, 9, 9, 9, 9, 9);
        follows(x, "two that he may not: the first", 1, 10, 9, 12, 9, 12);
        follows(x, "to the north bank as the last", -9, 8, 0, 8);
        for (int act = 0; act <= 12; act++) {
            follows(x, "behind the north bank: " + act, 2, 8, 0, 8, act);
        }
        follows(x, "a floe that is not there", 0, 10, 1);
        follows(x, "the last floe there could be", 0, 10, 7);
        follows(x, "to the north bank from the south one", 0, 10, 8);
        follows(x, "walking on a floe", 1, 0, 0, 10);
        follows(x, "walking on a floe to the other side", 1, 0, 0, 11);
        follows(x, "to the floe where he is", 1, 0, 0, 0);
        x = Due.river("r1;fh00r09;m60;");
        follows(x, "minutes 60 .. 71", -9, 8, 9, 9, 9, 9, 9, 9, 9, 9, 9, 9, 0, 8);
    }

    /** "0 .. 7 a FLOE, 8 the north bank, 10 and the CELL of the south bank". */
    private static void ends() {
        FloeToFloe x = Due.river("r1;fh00r09;fh01r09;fh02r09;fh03r09;fh04r09;fh05r09;fh06r09;fh07r09;");
        for (int cell = 0; cell < 10; cell++) {
            Due.row(x);
            Due.is("an empty row at cell " + cell, x.ends(1, cell), 10 + cell);
        }
        for (int f = 0; f < 8; f++) {
            Due.row(x, f);
            Due.is("on floe " + f, x.ends(1, f), f);
            Due.row(x, f, 12);
            Due.is("ashore from floe " + f, x.ends(1, (f + 1) % 10), 10 + f);
            Due.row(x, f, 8);
            Due.is("on the north bank from floe " + f, x.ends(1, (f + 9) % 10), 8);
        }
    }

    /** "n times (1 .. 20) the CELL is a DRAW below 10 and the LOAD a DRAW below 9, and 1", "(an int)", "without its sign's bit". */
    private static void seeds() {
        int[] seeds = {0, 1, -1, 255, 256, Integer.MAX_VALUE, Integer.MIN_VALUE, 1 << 30, -123456789, 20261119};
        // Each river lets only some loads over, and some cells: by drawing here too, each draw is told from the others.
        String[] rivers = {"r1;fh00r05;", "r1;fm00r05;", "r1;fm05r07;m3;", "r1;fs03r04;", "r1;fh00r01;", "r1;fh00r09;"};
        for (int seed : seeds) {
            for (String river : rivers) {
                FloeToFloe x = Due.river(river);
                int z = seed;
                int many = 0;
                for (int n = 1; n <= 20; n++) {
                    z = (int) (1664525L * z + 1013904223L);
                    int cell = (int) (((long) z & 0x7FFFFFFFL) / 256 % 10);
                    z = (int) (1664525L * z + 1013904223L);
                    int load = (int) (((long) z & 0x7FFFFFFFL) / 256 % 9) + 1;
                    many += x.soonest(load, cell) > 0 ? 1 : 0;
                    Due.is(river + " seeds(" + n + ", " + seed + ")", x.seeds(n, seed), many);
                }
            }
        }
        FloeToFloe x = Due.river("r1;fh00r09;");
        Due.is("all of one", x.seeds(1, 0), 1);
        Due.is("all of twenty", x.seeds(20, 0), 20);
        Due.is("none of twenty", new FloeToFloe().seeds(20, 0), 0);
    }

    /** "THE IMAGE: all that is told, MINUTE (not the ROW, letters, REFUSALS); ON from it all is as then". */
    private static void image() {
        FloeToFloe x = new FloeToFloe();
        Due.is("there is none", x.on(), -3);
        Due.is("it is taken", x.image(), 0);
        Due.is("there is one", x.on(), 0);
        Due.tell(x, "r1;ff00r01;m60;");
        Due.is("taken in minute 60", x.image(), 60);
        Due.tell(x, "ff01r01;ff02r01;ff03r01;ff04r01;ff05r01;ff06r01;ff07r01;m0;");
        Due.is("eight floes", x.count(1), 8);
        x.row(9);
        x.letter('r');
        x.crowd(-1);
        for (int again = 1; again <= 2; again++) {
            Due.is("on", x.on(), 60);
            Due.is("lanes", x.count(0), 1);
            Due.is("floes", x.count(1), 1);
            Due.is("no floe 1", x.is(1, 0), -1);
            Due.is("minute", x.count(2), 60);
            Due.is("the row is as it was", x.count(3), 1);
            Due.is("the letters are as they were", x.count(4), 1);
            Due.is("the refusals are as they were", x.count(14), 1);
            Due.is("and no room to pass a minute", x.pass(1), -6);
        }
    }

    /** A seed whose first load is this one. */
    private static int seedOf(int load) {
        for (int seed = 0; seed < 1000; seed++) {
            int z = (seed * 1664525 + 1013904223) * 1664525 + 1013904223;
            if ((z & 0x7FFFFFFF) / 256 % 9 + 1 == load) {
                return seed;
            }
        }
        Due.isTrue("a seed that draws " + load, false);
        return 0;
    }

    private static int distance(int a, int b) {
        int off = Math.abs(a - b);
        return Math.min(off, 10 - off);
    }

    private static void told(String text, int want) {
        Due.is("river of \"" + text + "\"", Due.tell(new FloeToFloe(), text), want);
    }

    private static void moves(String text, int... cells) {
        FloeToFloe x = Due.river(text);
        for (int minute = 0; minute < cells.length; minute++) {
            Due.is(text + " is(0, " + minute + ")", x.is(0, minute), cells[minute]);
        }
    }

    private static void fits(FloeToFloe x, int many, int first, int... numbers) {
        Due.row(x, numbers);
        String row = java.util.Arrays.toString(numbers);
        Due.is("fitting(0) of " + row, x.fitting(0), many);
        Due.is("fitting(1) of " + row, x.fitting(1), first);
    }

    private static void follows(FloeToFloe x, String sentence, int judged, int end, int... acts) {
        follows(x, 1, sentence, judged, end, acts);
    }

    /** From cell 0. */
    private static void follows(FloeToFloe x, int load, String sentence, int judged, int end, int... acts) {
        Due.row(x, acts);
        Due.is(sentence + ": judge", x.judge(load, 0), judged);
        Due.is(sentence + ": ends", x.ends(load, 0), end);
    }
}
