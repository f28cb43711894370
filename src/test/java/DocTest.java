import java.io.IOException;
import java.lang.reflect.Method;
import java.lang.reflect.Modifier;
import java.math.BigInteger;
import java.util.ArrayList;
import java.util.Arrays;
import java.util.List;
import java.util.TreeSet;

/**
 * The document from its first line to its last: each sentence in its own words, and behind it calls that would
 * answer otherwise if it did not hold. What is due was worked out by hand from the sentence, not asked of the class.
 */
public final class DocTest {
    private static final String EIGHT = "ff00r01;ff01r01;ff02r01;ff03r01;ff04r01;ff05r01;ff06r01;ff07r01;";

    public static void main(String[] args) throws IOException {
        whatItIs();
        face();
        riverOfLanes();
        letters();
        faults();
        kinds();
        places();
        waysOver();
        whoComesOver();
        poles();
        otherQuestions();
        fitting();
        judgedAndEnds();
        seeds();
        imageAndRefusals();
        promisesOfTheRiver();
        promisesOfFloes();
        promisesOfCrossing();
        promisesOfTheRow();
        lastPromises();
        notPromised();
        Doc.end();
        Due.end();
    }

    private static void whatItIs() {
        Doc.heads("# FloeToFloe\n## What it is");
        Doc.heads("From floe to floe: a river of lanes round which floes of kinds drift, told in letters, each at its own "
                + "pace, that melt, grind, turn, swell and bear so much; somebody of a load who walks along the south bank, "
                + "leaps from floe to floe and comes to the north bank; where all floes are when, what they bear, where one "
                + "can leap, who can be where in so many minutes, the soonest over, the fewest leaps, how long one may wait, "
                + "the heaviest who comes over, floes that are needed, the fewest held by poles by which one comes over, "
                + "where somebody is by now, kinds and paces that fit what was seen, told crossings looked at, banks by "
                + "seeds, an image. ==== I.");
        Doc.says("An object is used for at most 512 calls after it has been made; what later calls answer is free.");
        FloeToFloe x = new FloeToFloe();
        for (int call = 1; call < 512; call++) {
            Due.is("call " + call, x.crowd(-1), -4);
        }
        Due.is("call 512", x.count(14), 511);
    }

    private static void face() {
        Doc.heads("## The public face");
        String face = """
                public final class FloeToFloe {
                    public FloeToFloe();
                    public int letter(int c);
                    public int river();
                    public int floe(int floe, int what);
                    public int is(int floe, int minute);
                    public int bears(int floe, int minute);
                    public int pass(int n);
                    public int next(int floe);
                    public int crowd(int minute);
                    public int soonest(int load, int cell);
                    public int leaps(int load, int cell);
                    public int reach(int load, int cell, int n);
                    public int await(int load, int cell);
                    public int heaviest(int cell);
                    public int needed(int load, int cell);
                    public int poles(int load, int cell);
                    public int from(int load);
                    public int byNow(int load, int floe, int n);
                    public int row(int v);
                    public int fitting(int what);
                    public int judge(int load, int cell);
                    public int ends(int load, int cell);
                    public int clear();
                    public int seeds(int n, int z);
                    public int image();
                    public int on();
                    public int count(int what);
                }
                """;
        Doc.says(face);
        List<String> found = new ArrayList<>();
        for (Method method : FloeToFloe.class.getDeclaredMethods()) {
            if (!Modifier.isPrivate(method.getModifiers())) {
                found.add(method.toString().replace("FloeToFloe.", "").replace(",", ", "));
            }
        }
        List<String> told = new ArrayList<>();
        for (String line : face.split("\n")) {
            if (line.contains(" int ")) {
                told.add(line.strip().replaceAll("int \\w+(?=[,)])", "int").replace(";", ""));
            }
        }
        Due.isTrue("methods " + found, new TreeSet<>(found).equals(new TreeSet<>(told)));
        Due.isTrue("class", FloeToFloe.class.toGenericString().equals("public final class FloeToFloe"));
        Due.isTrue("constructors", Arrays.toString(FloeToFloe.class.getDeclaredConstructors()).equals("[public FloeToFloe()]"));
    }

    private static void riverOfLanes() {
        Doc.heads("## Terms");
        Doc.says("A RIVER of LANES (1 .. 5: 3 at first;");
        Doc.run("", "count 0 = 3, tell r1; = 1, count 0 = 1, tell r5; = 1, count 0 = 5, tell r0; = -2000",
                "tell r6; = -2000");
        Doc.says("lane 0 beside the south bank, the last one beside the north bank),");
        String three = "fh00r09;fh10r09;fh20r09;";
        Doc.run(three, "row 0, row 1, row 2, row 8, judge 1 0 = -9, ends 1 0 = 8");
        Doc.run(three, "row 1, judge 1 0 = 0, clear, row 2, judge 1 0 = 0");
        Doc.run(three, "row 0, row 8, judge 1 0 = 1, clear, row 0, row 1, row 8, judge 1 0 = 2, clear, row 0, row 1",
                "row 12, judge 1 0 = 2");
        Doc.says("each a round of 10 CELLS (cell 9 is beside 0).");
        Doc.run("ff09r11;ff00l11;", "is 0 1 = 0, is 1 1 = 9, is 0 10 = 9, is 1 10 = 0");
        Doc.run("fh09r01;fh10r01;fh11r01;", "next 0 = 2, next 1 = 1, next 2 = 0, heaviest 9 = 0, heaviest 10 = -1");
        Doc.says("FLOES 0 .. 7 as they come (8 at most):");
        Doc.run(EIGHT, "floe 0 2 = 0, floe 3 2 = 3, floe 7 2 = 7, floe 8 2 = -1, count 1 = 8, tell ff08r01; = -2000",
                "count 1 = 8");
        Doc.says("KIND, LANE, CELL (in MINUTE 0), PACE (-2 .. 2 CELLS a MINUTE), BEARS (1 .. 9).");
        Doc.run("m3;fs28l29;", "floe 0 0 = 5, floe 0 1 = 2, floe 0 2 = 8, floe 0 3 = 0, floe 0 4 = 9, is 0 0 = 8",
                "is 0 1 = 6, is 0 3 = 2");
        Doc.run("", "tell ff00l21; = 1, tell ff00r21; = 1, tell ff00l31; = -2000, tell ff00r31; = -2000");
        Doc.run("", "tell ff00r00; = -2000, tell ff00r01; = 1, tell ff00r09; = 1, bears 0 0 = 1, bears 1 0 = 9");
        Doc.says("MINUTE (0 .. 60: 0 at first).");
        Doc.run("", "count 2 = 0, tell m60; = 1, count 2 = 60, tell m61; = -2000, count 2 = 60, tell m0; = 1",
                "count 2 = 0");
    }

    private static void letters() {
        Doc.says("A RIVER is told in letters, one by one (80 at most):");
        FloeToFloe x = new FloeToFloe();
        for (int i = 0; i < 80; i++) {
            Due.is("letter " + i, x.letter("m00;".charAt(i % 4)), i + 1);
        }
        Due.is("the 81st letter", x.letter('m'), -6);
        Due.is("the river of 80", x.river(), 20);
        Doc.says("STATEMENTS, each with \";\" behind:");
        Doc.run("", "tell r4;m5; = 2, count 0 = 4, count 2 = 5, tell r3m6; = -1002, tell r3 = -1002, count 0 = 4");
        Doc.says("\"r\" LANES (a digit);");
        Doc.run("", "tell r4; = 1, count 0 = 4, tell r; = -1001, tell r04; = -1002, tell rf; = -1001",
                "tell R4; = -1000");
        Doc.says("\"f\" a letter of a KIND, LANE, CELL (a digit each), \"l\" or \"r\" and PACE (a digit: to the left, CELLS of "
                + "less number, or the right), BEARS (a digit): a FLOE more;");
        Doc.run("", "tell ft25l24; = 1, count 1 = 1, floe 0 0 = 3, floe 0 1 = 2, floe 0 2 = 5, floe 0 3 = 0",
                "floe 0 4 = 4, is 0 1 = 3");
        Doc.run("fg11l13;", "tell ff25r24; = 1, count 1 = 2, floe 0 0 = 2, floe 1 0 = 0, floe 1 3 = 4, is 1 1 = 7");
        Doc.run("", "tell f025l24; = -1001, tell ftt5l24; = -1002, tell ft2tl24; = -1003, tell ft25-24; = -1004",
                "tell ft25l;24; = -1005");
        Doc.run("", "tell ft25l2; = -1006, tell ft25l244; = -1007, tell f;t25l24; = -1001");
        Doc.says("\"m\" MINUTE (1 or 2 digits).");
        Doc.run("", "tell m7; = 1, count 2 = 7, tell m12; = 1, count 2 = 12, tell m; = -1001, tell m123; = -1003");
        Doc.says("Numbers may begin with 0.");
        Doc.run("", "tell m07; = 1, count 2 = 7, tell m00; = 1, count 2 = 0, tell ff00r01; = 1, floe 0 1 = 0",
                "floe 0 2 = 0");
        Doc.says("At least one STATEMENT.");
        Doc.run("", "river = -1000, tell m1; = 1, river = -1000");
    }

    private static void faults() {
        Doc.says("FAULT: kind 1 the place of the first letter with which no RIVER can go on (the end, if something lacks): "
                + "-1000 less the place;");
        Doc.run("", "tell x = -1000, tell ; = -1000, tell r1;x = -1003, tell r1x; = -1002, tell fq00r01; = -1001",
                "tell m1;; = -1003");
        Doc.run("", "tell r = -1001, tell r1 = -1002, tell r1;m = -1004, tell m12 = -1003, tell ff00r0 = -1006",
                "tell ff00r01 = -1007");
        Doc.says("else kind 2 the place of the first letter of the first STATEMENT that, behind all ahead of it in the text, is "
                + "not as it must be (a number out of range, no such LANE, LANES less than a FLOE has, no room for more): "
                + "-2000 less the place.");
        Doc.run("", "tell r0;x = -1003, tell m61;r = -1005, tell m5;m61;r0; = -2003");
        Doc.run("", "tell r6; = -2000, tell m1;ff00r31; = -2003, tell m1;m1;ff00r00; = -2006, tell m99; = -2000");
        Doc.run("", "tell ff30r01; = -2000, tell r4;ff30r01; = 2, tell ff40r01; = -2000, tell m1;r5;ff50r01; = -2006");
        Doc.run("", "tell ff20r01;r2; = -2008, tell ff20r01;r3; = 2, tell r2; = -2000, tell r3; = 1");
        Doc.run(EIGHT, "tell r5;ff00r01; = -2003, count 0 = 3");
        Doc.says("Without FAULT all of it comes, with one nothing.");
        String before = "count 0 = 4, count 1 = 1, count 2 = 5, count 5 = 2";
        Doc.run("r4;m5;ff30r02;", before + ", tell r5;m6;ff40r01;r3; = -2014", before + ", tell r5;m6;ff40r01;x = -1014", before,
                "tell ff11r09; = 1, count 0 = 4, count 1 = 2, count 2 = 5, count 5 = 11, floe 1 2 = 1");
        Doc.run("r4;m5;ff30r02;", "tell r5;m6;ff40r01; = 3, count 0 = 5, count 1 = 2, count 2 = 6, count 5 = 3");
    }

    private static void kinds() {
        Doc.says("KINDS, where one IS in a MINUTE m, what it BEARS then: f FLOE: CELL and m times PACE (round); BEARS.");
        Doc.run("ff03r24;ff03l14;", "is 0 0 = 3, is 0 3 = 9, is 0 4 = 1, is 1 3 = 0, is 1 4 = 9, bears 0 0 = 4",
                "bears 0 119 = 4");
        Doc.says("m MELTING under FLOE: a FLOE's less m by 4, cut, 0 at least.");
        Doc.run("fm03r24;", "is 0 4 = 1, bears 0 0 = 4, bears 0 3 = 4, bears 0 4 = 3, bears 0 15 = 1, bears 0 16 = 0",
                "bears 0 20 = 0");
        Doc.says("g GRINDING under MELTING: a MELTING's, in odd MINUTES 1 less, 0 at least.");
        Doc.run("fg03r24;", "is 0 4 = 1, bears 0 0 = 4, bears 0 1 = 3, bears 0 2 = 4, bears 0 4 = 3, bears 0 5 = 2");
        Doc.run("fg03r24;", "bears 0 12 = 1, bears 0 13 = 0, bears 0 16 = 0, bears 0 17 = 0, bears 0 119 = 0");
        Doc.says("t TURNING under FLOE: it IS at CELL and PACE times 0, 1, 2, 3, 2, 1 (as m modulo 6 is 0 .. 5).");
        Doc.run("ft03r24;", "is 0 0 = 3, is 0 1 = 5, is 0 2 = 7, is 0 3 = 9, is 0 4 = 7, is 0 5 = 5, is 0 6 = 3",
                "is 0 119 = 5");
        Doc.run("ft03l24;", "is 0 1 = 1, is 0 2 = 9, is 0 3 = 7, is 0 4 = 9, bears 0 7 = 4, bears 0 119 = 4");
        Doc.says("h HELD under FLOE: it IS at CELL.");
        Doc.run("fh03r24;", "is 0 0 = 3, is 0 1 = 3, is 0 119 = 3, bears 0 119 = 4, floe 0 3 = 4");
        Doc.says("s SWELLING under FLOE: a FLOE's and m by 6, cut.");
        Doc.run("fs03r24;", "is 0 4 = 1, bears 0 0 = 4, bears 0 5 = 4, bears 0 6 = 5, bears 0 119 = 23",
                "bears 0 120 = 24");
    }

    private static void places() {
        Doc.says("PLACES: on the south bank at a CELL, on a FLOE, on the north bank.");
        Doc.run("r1;fh00r09;", "ends 1 3 = 13, row 0, ends 1 0 = 0, row 8, ends 1 0 = 8");
        Doc.says("Somebody of a LOAD (1 .. 9) MAY in a MINUTE: stay;");
        Doc.run("r1;fh00r09;", "row 9, row 0, row 9, judge 1 1 = -9, ends 1 1 = 0, judge 9 1 = -9, judge 0 1 = -4",
                "judge 10 1 = -6");
        Doc.says("on the south bank walk to a CELL beside;");
        Doc.run("r1;fh00r09;", "row 10, row 10, row 11, judge 1 1 = -9, ends 1 1 = 10, clear, row 0, row 10",
                "judge 1 0 = 1, ends 1 0 = 0");
        Doc.says("leap from the south bank to a FLOE in LANE 0 that IS at his CELL or beside it;");
        Doc.run("r2;fh05r09;fh15r09;", "row 0, judge 1 3 = 0, judge 1 4 = -9, judge 1 5 = -9, judge 1 6 = -9",
                "judge 1 7 = 0");
        Doc.run("r2;fh05r09;fh15r09;", "row 1, judge 1 4 = 0, judge 1 5 = 0, clear, row 2, judge 1 5 = 0, clear",
                "row 8, judge 1 5 = 0");
        Doc.run("ff05r19;m2;", "row 0, judge 1 8 = -9, judge 1 6 = -9, judge 1 5 = 0, judge 1 9 = 0");
        Doc.says("leap from a FLOE to one in a LANE beside that IS at the CELL where it IS, or beside that;");
        String fiveFloes = "r3;fh05r09;fh16r09;fh17r09;fh25r09;fh06r09;";
        Doc.run(fiveFloes, "row 0, row 1, row 3, row 1, row 0, judge 1 5 = -9, ends 1 5 = 0");
        Doc.run(fiveFloes, "row 0, row 2, judge 1 5 = 1, clear, row 0, row 3, judge 1 5 = 1, clear, row 0, row 4",
                "judge 1 5 = 1");
        Doc.run("r2;ff05r19;fh17r09;", "row 0, row 1, judge 1 5 = -9, clear, row 0, row 9, row 1, judge 1 4 = -9",
                "next 0 = 0");
        Doc.says("from one in LANE 0 to the south bank (at the CELL where it IS);");
        Doc.run("r2;ff05r19;fh16r09;", "row 0, row 9, row 12, ends 1 5 = 17, clear, row 0, row 1, row 12",
                "judge 1 5 = 2, ends 1 5 = 1");
        Doc.says("from one in the last LANE to the north bank.");
        Doc.run("r2;fh05r09;fh15r09;", "row 0, row 8, judge 1 5 = 1, clear, row 0, row 1, row 8, judge 1 5 = -9",
                "tell r3; = 1, judge 1 5 = 2");
        Doc.says("Where he is a MINUTE later on a FLOE, that must BEAR his LOAD in both MINUTES.");
        Doc.run("r1;fm00r05;m2;", "row 0, judge 5 0 = -9, judge 6 0 = 0, row 9, judge 5 0 = 1, clear, row 0, row 12",
                "judge 5 0 = -9");
        Doc.run("r1;fm00r05;m2;", "row 0, row 8, judge 5 0 = -9, pass 1, judge 5 0 = 0, judge 4 0 = -9");
        Doc.run("r1;fs00r05;m5;", "row 0, judge 6 0 = 0, judge 5 0 = -9, pass 1, judge 6 0 = -9, judge 7 0 = 0");
        Doc.run("r2;fh00r09;fm10r05;m2;", "row 0, row 1, judge 5 0 = 1, judge 4 0 = -9");
    }

    private static void waysOver() {
        Doc.says("==== II. From now (MINUTE), of a LOAD, from a CELL of the south bank, in 40 MINUTES at most:");
        // It bears load 9 from minute 48 on: over in minute 50.
        Doc.run("r1;fs00r01;m9;", "soonest 9 0 = -9, leaps 9 0 = -9, heaviest 0 = 8, needed 9 0 = 0, poles 9 0 = -9",
                "from 9 = 0");
        Doc.run("r1;fs00r01;m9;", "pass 1, soonest 9 0 = 40, leaps 9 0 = 2, heaviest 0 = 9, needed 9 0 = 1",
                "poles 9 0 = 0, from 9 = 1023");
        Doc.says("SOONEST: in how many MINUTES he can be on the north bank; -9.");
        Doc.run("r1;fh00r05;", "soonest 5 0 = 2, soonest 5 1 = 2, soonest 5 2 = 3, soonest 5 5 = 6, soonest 5 9 = 2",
                "soonest 6 0 = -9");
        Doc.run("r2;fh00r09;ff12r19;", "soonest 9 0 = 9, pass 8, soonest 9 0 = 3, tell r3; = 1, soonest 9 0 = -9");
        Doc.says("LEAPS: the fewest leaps (whatever MINUTES) by which; -9.");
        Doc.run("r3;fh00r09;fh10r09;fh20r05;", "leaps 5 0 = 4, leaps 5 5 = 4, soonest 5 5 = 8, leaps 6 0 = -9");
        // Floe 6 takes him in 14 minutes from floe 1 to floe 5; over floes 2, 3 and 4 it is 7 minutes.
        Doc.run("r4;fh00r09;fh11r09;fh22r09;fh13r09;fh24r09;fh35r09;", "leaps 1 0 = 7, soonest 1 0 = 7",
                "tell ff22r19; = 1, leaps 1 0 = 5, soonest 1 0 = 7");
        Doc.says("REACH behind n MINUTES (0 .. 40): PLACES where he can be: FLOES (bits), 256 more for the north bank (that is "
                + "not left any more), 512 the south bank.");
        Doc.run("r1;fm00r01;", "reach 1 0 0 = 512, reach 1 0 1 = 513, reach 1 0 2 = 769, reach 1 0 3 = 769",
                "reach 1 0 4 = 768, reach 1 0 40 = 768");
        Doc.run("r2;fh00r09;fh05r09;fh11r05;", "reach 5 9 2 = 517, reach 5 9 4 = 775, reach 6 9 3 = 513",
                "reach 6 9 4 = 515, reach 5 9 41 = -6, reach 5 9 -1 = -4");
        Doc.says("WAIT: the most MINUTES (0 .. 40) that he can stay on that CELL first, so that he still comes over (40 MINUTES "
                + "from then on); -9 he can not at all.");
        Doc.run("r1;fm00r01;", "await 1 0 = 2, await 1 2 = 1, await 1 3 = 0, await 1 4 = -9, pass 2, await 1 0 = 0",
                "pass 1, await 1 0 = -9");
        Doc.run("r1;fs00r01;", "soonest 9 0 = -9, await 9 0 = 40, await 1 5 = 40");
    }

    private static void whoComesOver() {
        Doc.says("HEAVIEST: the greatest LOAD that comes over; 0 none.");
        Doc.run("r2;fh00r06;fh10r04;", "heaviest 0 = 4, heaviest 5 = 4, tell fh10r09; = 1, heaviest 0 = 6",
                "tell r3; = 1, heaviest 0 = 0");
        Doc.run("r1;fm00r05;", "heaviest 3 = 5, heaviest 4 = 4, heaviest 5 = 4");
        Doc.says("NEEDED: FLOES (bits) without each of which alone he does not come over; 0, if he does not with all.");
        Doc.run("r2;fh00r09;fh01r09;fh10r05;", "needed 5 0 = 4, needed 6 0 = 0");
        Doc.run("r2;fh00r09;fh01r04;fh10r09;", "needed 4 0 = 4, needed 5 0 = 5, needed 9 5 = 5");
    }

    private static void poles() {
        Doc.says("POLES: of all sets of FLOES that, held fast where they ARE now (they BEAR as their KINDS tell), let him come "
                + "over, the one of fewest, of several the least bits; -9.");
        Doc.run("r2;ff00r19;ff15r19;", "soonest 9 0 = -9, poles 9 0 = 1, tell r3; = 1, poles 9 0 = -9");
        // Floe 2 held: floes 0 and 1 come by together. Floes 0 and 1 held would be two.
        Doc.run("r3;ff00r19;ff20r19;ff15r19;", "poles 9 0 = 4");
        Doc.run("r4;ff00r19;ff15r19;ff20r19;ff35r19;", "poles 9 0 = 5");
        Doc.run("r2;fh00r09;fh10r09;", "poles 9 0 = 0");
        // Nobody holds a floe but in POLES.
        Doc.run("r2;ff00r19;ff15r19;", "soonest 9 0 = -9, leaps 9 0 = -9, reach 9 0 40 = 513, await 9 0 = -9, heaviest 0 = 0",
                "needed 9 0 = 0, from 9 = 0, seeds 20 1 = 0, tell fh10r09; = 1, needed 9 0 = 5, pass 4, byNow 9 0 4 = 5");
        // They turn four cells apart, so it hangs on where they are now.
        Doc.run("r2;ft00r19;ft14r19;", "poles 9 0 = 2, pass 1, poles 9 0 = -9, pass 2, poles 9 0 = 1, pass 3",
                "poles 9 0 = 2");
        // The melting one bears load 9 in minutes 0 .. 3, load 8 up to 7; they come together in minute 4.
        Doc.run("r2;fm00r19;ff15r19;", "poles 9 0 = -9, poles 8 0 = 1, poles 7 0 = 1");
    }

    private static void otherQuestions() {
        Doc.says("FROM: CELLS of the south bank (bits) from which one comes over.");
        Doc.run("r1;fm05r05;", "from 4 = 1023, from 5 = 508, from 6 = 0");
        Doc.run("r1;fm09r05;m2;", "from 5 = 769, from 6 = 0");
        Doc.says("BY NOW: of one who was on a told FLOE n MINUTES ago (MINUTE not less than n): FLOES (bits) where he can be now.");
        Doc.run("r2;fh00r09;fh10r05;m5;", "byNow 9 0 0 = 1, byNow 9 0 1 = 1, byNow 5 0 1 = 3, byNow 5 1 5 = 3",
                "byNow 5 1 6 = -6");
        // Where they were then: near one another in minute 2, not in minutes 3, 4 and 5.
        Doc.run("r2;ff00r19;fh11r09;m3;", "byNow 9 0 1 = 3, byNow 9 1 1 = 3, pass 1, byNow 9 0 1 = 1, byNow 9 0 2 = 3");
        // Ashore, three cells along the bank, onto floe 1: five minutes. The north bank is not left.
        Doc.run("fh00r09;fh04r09;m5;", "byNow 1 0 4 = 1, byNow 1 0 5 = 3");
        Doc.run("r2;fh10r05;fh04r09;m60;", "byNow 1 0 60 = 1, byNow 6 0 1 = 0");
        // Floe 0 melts to nothing in minute 4; by minute 3 he is on floe 1.
        Doc.run("r2;fm00r01;fh10r09;m6;", "byNow 1 0 6 = 2, byNow 1 0 4 = 2, byNow 1 0 2 = 2, byNow 1 1 6 = 2");
        Doc.says("NEXT to a FLOE: FLOES (bits) to which one can leap from it in a MINUTE (whatever they BEAR).");
        Doc.run("r3;fh00r01;fm11r01;fm12r01;fh20r01;fh01r01;m60;", "next 0 = 2, next 1 = 25, next 2 = 16, next 3 = 2",
                "next 4 = 6, bears 1 60 = 0");
        Doc.run("r2;ff00r11;fh13r01;", "next 0 = 0, pass 2, next 0 = 2, next 1 = 1, pass 2, next 0 = 2, pass 1",
                "next 0 = 0");
        Doc.says("CROWD: how many FLOES ARE in one LANE at one CELL with another one in a MINUTE.");
        Doc.run("ff00r11;fh02r01;fh12r01;", "crowd 0 = 0, crowd 2 = 2, crowd 3 = 0, crowd 12 = 2");
        Doc.run("fh00r01;fh00r01;fh00r01;fh11r01;fh11r01;fh01r01;", "crowd 7 = 5");
    }

    private static void fitting() {
        Doc.says("SEEN: a ROW of numbers (0 .. 12; 12 at most) is told:");
        Doc.run("", "row -1 = -4, row 0 = 1, row 12 = 2, row 13 = -6, count 3 = 2");
        Doc.run("", "row 1, row 1, row 1, row 1, row 1, row 1, row 1, row 1, row 1, row 1, row 1, row 1 = 12",
                "row 1 = -6, count 3 = 12");
        Doc.says("CELLS where something was in MINUTES 0, 1, ..: FITTING: how many of KINDS f, t, h and PACES -2 .. 2 (CELL the "
                + "first told one) would be so;");
        Doc.run("m30;", "row 5, fitting 0 = 15, row 5, fitting 0 = 7, row 6, fitting 0 = 0");
        Doc.run("", "row 8, row 0, row 2, row 4, fitting 0 = 2, row 6, fitting 0 = 1, row 8, row 0, fitting 0 = 1");
        Doc.run("", "row 1, row 0, row 9, row 8, row 9, fitting 0 = 1, row 0, row 1, row 0, fitting 0 = 1, row 1",
                "fitting 0 = 0");
        Doc.says("the first (10 times the KIND 0, 1, 2 and PACE and 2); -9.");
        Doc.run("", "row 5, fitting 1 = 0, row 5, fitting 1 = 2, row 6, fitting 1 = -9");
        Doc.run("", "row 8, row 0, row 2, row 4, fitting 1 = 4, row 2, fitting 1 = 14");
        Doc.run("", "row 1, row 0, fitting 1 = 1, row 9, row 8, row 9, fitting 1 = 11");
    }

    private static void judgedAndEnds() {
        String river = "r1;fh00r09;fh01r09;";
        Doc.says("JUDGED for a LOAD and a CELL: the ROW as what he does from now on, one a MINUTE: 0 .. 7 leaps to that FLOE, 8 "
                + "to the north bank, 9 stays, 10 walks to the CELL of less number, 11 of greater, 12 leaps to the south bank:");
        Doc.run(river, "row 9, ends 1 4 = 14, row 10, ends 1 4 = 13, row 11, ends 1 4 = 14, row 10, row 10, row 1",
                "ends 1 4 = 1");
        Doc.run(river, "row 1, row 12, ends 1 0 = 11, row 0, row 9, row 8, ends 1 0 = 8");
        Doc.run("r1;" + EIGHT, "row 7, judge 1 8 = -9, ends 1 8 = 7, ends 1 6 = 7, judge 1 9 = 0");
        Doc.run("", "row 10, ends 1 0 = 19, clear, row 11, ends 1 9 = 10");
        // From now on, one a minute: the floe is at 3, 4, 5 in minutes 3, 4, 5.
        Doc.run("r1;ff00r19;m3;", "row 9, row 9, row 0, judge 1 6 = -9, judge 1 3 = 2, clear, row 0, judge 1 3 = -9",
                "judge 1 6 = 0");
        Doc.says("the first that he MAY not (also behind the north bank); -9.");
        Doc.run(river, "judge 1 0 = -9, row 9, judge 1 0 = -9, row 8, judge 1 0 = 1, row 12, judge 1 0 = 1");
        for (int act = 0; act <= 12; act++) {
            Doc.run(river, "row 0, row 8, judge 1 0 = -9, row " + act + ", judge 1 0 = 2, ends 1 0 = 8");
        }
        Doc.says("ENDS: where he is behind all that he MAY: 0 .. 7 a FLOE, 8 the north bank, 10 and the CELL of the south bank.");
        Doc.run(river, "ends 1 0 = 10, ends 1 9 = 19, row 1, ends 1 0 = 1, row 10, ends 1 0 = 1, ends 1 9 = 19, clear",
                "row 0, row 8, ends 1 0 = 8");
    }

    private static void seeds() {
        Doc.says("SEEDS with a seed z: n times (1 .. 20) the CELL is a DRAW below 10 and the LOAD a DRAW below 9, and 1: how many "
                + "come over.");
        Doc.run("r1;fh00r09;", "seeds 0 7 = -4, seeds 1 7 = 1, seeds 20 7 = 20, seeds 21 7 = -6, tell r2; = 1",
                "seeds 20 7 = 0");
        // Cells and loads of seed 7: 7 and 3, 6 and 2, 7 and 6, 5 and 4. The floe bears 5 up to minute 3, then 4 up to 7.
        Doc.run("r1;fm00r05;", "seeds 1 7 = 1, seeds 2 7 = 2, seeds 3 7 = 2, seeds 4 7 = 3");
        Doc.run("r1;fm00r06;", "seeds 3 7 = 3, tell m1; = 1, seeds 3 7 = 2");
        Doc.says("A DRAW below m: z becomes z times 1664525 and 1013904223 (an int); (z without its sign's bit by 256, cut) modulo m.");
        for (int seed : new int[] {0, 7, -1, 255, 20261119, Integer.MAX_VALUE, Integer.MIN_VALUE}) {
            drawsOf(seed);
        }
    }

    /** On a floe that bears 5, held at cell 0: load 5 and less, whatever the cell; drawn here with numbers of any length. */
    private static void drawsOf(int seed) {
        FloeToFloe x = Due.river("r1;fh00r05;");
        BigInteger round = BigInteger.ONE.shiftLeft(32);
        BigInteger z = BigInteger.valueOf(seed).mod(round);
        int many = 0;
        for (int n = 1; n <= 20; n++) {
            for (int draw = 0; draw < 2; draw++) {
                z = z.multiply(BigInteger.valueOf(1664525)).add(BigInteger.valueOf(1013904223)).mod(round);
            }
            int load = z.clearBit(31).divide(BigInteger.valueOf(256)).mod(BigInteger.valueOf(9)).intValue() + 1;
            many += load <= 5 ? 1 : 0;
            Due.is("seeds(" + n + ", " + seed + ")", x.seeds(n, seed), many);
        }
    }

    private static void imageAndRefusals() {
        Doc.says("THE IMAGE: all that is told, MINUTE (not the ROW, letters, REFUSALS);");
        Doc.run("r4;fs32l25;m20;", "image = 20, tell r5;ff40r01;m9; = 3, on = 20, count 0 = 4, count 1 = 1",
                "count 2 = 20, floe 0 0 = 5, floe 1 0 = -1");
        Doc.run("r4;", "row 1, letter 109, next 0, image, row 2, letter 49, next 0, on, count 3 = 2, count 4 = 2",
                "count 11 = 2, letter 59, river = 1");
        Doc.says("ON from it all is as then.");
        Doc.run("r1;fm00r05;m2;", "soonest 5 0 = 2, image = 2, pass 1 = 3, soonest 5 0 = -9, on = 2, soonest 5 0 = 2",
                "pass 1, on = 2, count 2 = 2");
        Doc.says("REFUSALS (the call answers the number, the first that fits in the order in which it tells them; nothing changes "
                + "but how many there were):");
        Doc.run("ff00r01;", "reach 0 10 41 = -1, reach 0 0 41 = -4, reach 10 0 -1 = -4, reach 10 0 41 = -6",
                "floe 1 9 = -1, is 1 121 = -1");
        Doc.run("ff00r01;", "pass 61 = -6, row 13 = -6, letter 256 = -6, count 2 = 0, count 3 = 0, count 4 = 0",
                "count 16 = 3, count 14 = 0");
        Doc.says("-1 NOBODY: no such FLOE, CELL.");
        Doc.run("ff00r01;", "next 0 = 0, next 1 = -1, next -1 = -1, heaviest 10 = -1, heaviest -1 = -1, count 11 = 4");
        Doc.says("-2 OTHER: what.");
        Doc.run("ff00r01;", "floe 0 5 = -2, floe 0 -1 = -2, fitting 2 = -2, fitting -1 = -2, count 12 = 4");
        Doc.says("-3 STATE: it is not as it must be.");
        Doc.run("", "on = -3, count 13 = 1, image, on = 0, count 13 = 1");
        Doc.says("-4 BELOW: a number below the least.");
        Doc.run("", "pass 0 = -4, crowd -1 = -4, row -1 = -4, seeds 0 0 = -4, count 14 = 4");
        Doc.says("-6 ROOM: a number above the greatest, no room.");
        Doc.run("m59;", "crowd 121 = -6, pass 2 = -6, pass 1 = 60, seeds 21 0 = -6, count 16 = 3, count 15 = 0");
    }

    private static void promisesOfTheRiver() {
        Doc.says("## Promise 1: A new object\n`FloeToFloe()`: Three LANES, no FLOES.");
        Doc.run("", "count 0 = 3, count 1 = 0, floe 0 0 = -1, count 2 = 0, count 3 = 0, count 4 = 0, count 5 = 0",
                "count 11 = 1, count 12 = 0");
        Doc.says("## Promise 2: letter\n`int letter(int c)`: A letter (0 .. 255) comes: how many there are.");
        Doc.run("", "letter 0 = 1, letter 255 = 2, letter 59 = 3, count 4 = 3");
        Doc.says("-4; -6 (255; 80, too).");
        FloeToFloe full = Doc.run("", "letter -1 = -4, letter 256 = -6");
        for (int i = 1; i <= 80; i++) {
            Due.is("letter " + i, full.letter('r'), i);
        }
        Due.is("no room", full.letter('r'), -6);
        Due.is("below, ahead of no room", full.letter(-1), -4);
        Doc.says("## Promise 3: river\n`int river()`: The letters become a RIVER, and are no more (with a FAULT neither): how many "
                + "STATEMENTS; the FAULT (nothing is counted).");
        Doc.run("", "letter 109, letter 55, letter 59, river = 1, count 2 = 7, count 4 = 0, letter 120, letter 120",
                "river = -1000, count 4 = 0");
        Doc.run("", "tell r2;m3;r4; = 3, tell r0; = -2000, tell r = -1001, count 4 = 0, count 11 = 0, count 14 = 0",
                "count 16 = 0");
        Doc.says("## Promise 4: floe\n`int floe(int floe, int what)`: Of a FLOE: 0 KIND (0 f, 1 m, 2 g, 3 t, 4 h, 5 s), 1 LANE, 2 "
                + "CELL, 3 PACE and 2, 4 BEARS as told.");
        Doc.run("ff00r01;fm00r01;fg00r01;ft00r01;fh00r01;fs00r01;", "floe 0 0 = 0, floe 1 0 = 1, floe 2 0 = 2",
                "floe 3 0 = 3, floe 4 0 = 4, floe 5 0 = 5");
        Doc.run("fm27l18;ff00r21;m60;", "floe 0 1 = 2, floe 0 2 = 7, floe 0 3 = 1, floe 0 4 = 8, floe 1 3 = 4",
                "is 0 60 = 7, bears 0 60 = 0");
        Doc.says("-1; -2.");
        Doc.run("ff00r01;", "floe 1 0 = -1, floe -1 0 = -1, floe 0 5 = -2, floe 0 -1 = -2, floe 1 5 = -1");
    }

    private static void promisesOfFloes() {
        Doc.says("## Promise 5: is\n`int is(int floe, int minute)`: Where it IS in a MINUTE (0 .. 120).");
        Doc.run("ff00r21;m7;", "is 0 0 = 0, is 0 4 = 8, is 0 120 = 0, is 0 119 = 8");
        Doc.says("-1; -4; -6.");
        Doc.run("ff00r21;", "is 1 -1 = -1, is -1 0 = -1, is 0 -1 = -4, is 0 121 = -6");
        Doc.says("## Promise 6: bears\n`int bears(int floe, int minute)`: What it BEARS in a MINUTE (0 .. 120).");
        Doc.run("fm00r09;m7;", "bears 0 0 = 9, bears 0 8 = 7, bears 0 120 = 0");
        Doc.says("-1; -4; -6.");
        Doc.run("fm00r09;", "bears 1 -1 = -1, bears -1 0 = -1, bears 0 -1 = -4, bears 0 121 = -6");
        Doc.says("## Promise 7: pass\n`int pass(int n)`: n MINUTES (1 .. 60) go by: MINUTE.");
        Doc.run("", "pass 1 = 1, pass 10 = 11, count 2 = 11, pass 49 = 60");
        Doc.run("", "pass 60 = 60");
        Doc.says("-4; -6 (60; above 60).");
        Doc.run("", "pass 0 = -4, pass -1 = -4, pass 61 = -6, pass 31 = 31, pass 30 = -6, count 2 = 31, pass 29 = 60",
                "pass 1 = -6");
        Doc.says("## Promise 8: next\n`int next(int floe)`: NEXT (bits), now.");
        Doc.run("r2;fh00r01;ff12r11;", "next 0 = 0, pass 7, next 0 = 2, next 1 = 1, pass 3, next 0 = 0");
        Doc.says("-1.");
        Doc.run("ff00r01;", "next 1 = -1, next -1 = -1");
        Doc.says("## Promise 9: crowd\n`int crowd(int minute)`: CROWD.");
        Doc.run("ff00r11;fh05r01;m5;", "crowd 5 = 2, crowd 0 = 0, crowd 115 = 2, crowd 120 = 0");
        Doc.says("-4; -6 120.");
        Doc.run("", "crowd -1 = -4, crowd 121 = -6, crowd 120 = 0");
    }

    private static void promisesOfCrossing() {
        String weak = "r1;fm00r05;m2;";
        Doc.says("## Promise 10: soonest\n`int soonest(int load, int cell)`: SOONEST; -9.");
        Doc.run(weak, "soonest 5 0 = 2, soonest 5 2 = -9, soonest 4 2 = 3");
        Doc.says("-1 the CELL; -4; -6 9.");
        refusesWalkers(weak, "soonest", -9);
        Doc.says("## Promise 11: leaps\n`int leaps(int load, int cell)`: LEAPS; -9.");
        Doc.run(weak, "leaps 5 0 = 2, leaps 5 2 = -9, leaps 4 2 = 2");
        Doc.says("-1; -4; -6 9.");
        refusesWalkers(weak, "leaps", -9);
        Doc.says("## Promise 12: reach\n`int reach(int load, int cell, int n)`: REACH.");
        Doc.run(weak, "reach 5 0 0 = 512, reach 5 0 1 = 513, reach 5 0 2 = 768, reach 4 0 40 = 768");
        Doc.says("-1; -4; -6 (9; 40).");
        Doc.run(weak, "reach 1 10 0 = -1, reach 1 -1 0 = -1, reach 0 0 0 = -4, reach 1 0 -1 = -4, reach 10 0 0 = -6",
                "reach 1 0 41 = -6, reach 0 10 41 = -1");
        Doc.says("## Promise 13: await\n`int await(int load, int cell)`: WAIT; -9.");
        Doc.run(weak, "await 5 0 = 0, await 5 2 = -9, await 4 2 = 3, await 1 0 = 16");
        Doc.says("-1; -4; -6 9.");
        refusesWalkers(weak, "await", -9);
        Doc.says("## Promise 14: heaviest\n`int heaviest(int cell)`: HEAVIEST.");
        Doc.run(weak, "heaviest 0 = 5, heaviest 1 = 5, heaviest 2 = 4, heaviest 9 = 5");
        Doc.says("-1.");
        Doc.run(weak, "heaviest 10 = -1, heaviest -1 = -1");
        Doc.says("## Promise 15: needed\n`int needed(int load, int cell)`: NEEDED (bits).");
        Doc.run("r1;fh05r09;fm00r05;fh05r09;m2;", "needed 5 0 = 0, needed 9 0 = 0, tell r2;fh10r03; = 2",
                "needed 3 0 = 10, needed 4 0 = 0");
        Doc.says("-1; -4; -6 9.");
        refusesWalkers(weak, "needed", 0);
        Doc.says("## Promise 16: poles\n`int poles(int load, int cell)`: POLES (bits); -9.");
        Doc.run("r3;ff00r19;ff15r19;fh25r09;", "poles 9 0 = 1, poles 9 5 = 1, tell r4; = 1, poles 9 0 = -9");
        Doc.says("-1; -4; -6 9.");
        refusesWalkers(weak, "poles", -9);
        Doc.says("## Promise 17: from\n`int from(int load)`: FROM (bits).");
        Doc.run(weak, "from 5 = 515, from 4 = 1023, from 6 = 0");
        Doc.says("-4; -6 9.");
        Doc.run(weak, "from 0 = -4, from 10 = -6, from 9 = 0, from 1 = 1023");
        Doc.says("## Promise 18: byNow\n`int byNow(int load, int floe, int n)`: BY NOW (bits).");
        Doc.run("r2;fh00r09;fh10r05;m5;", "byNow 9 0 5 = 1, byNow 5 0 5 = 3, byNow 5 0 0 = 1");
        Doc.says("-1; -4 (LOAD below 1, n below 0); -6 (9; above MINUTE).");
        Doc.run(weak, "byNow 0 1 9 = -1, byNow 1 -1 0 = -1, byNow 0 0 3 = -4, byNow 10 0 -1 = -4, byNow 10 0 0 = -6",
                "byNow 1 0 3 = -6, byNow 1 0 2 = 1");
    }

    private static void refusesWalkers(String river, String name, int ofNine) {
        for (String call : new String[] {"1 10 = -1", "1 -1 = -1", "0 10 = -1", "10 -1 = -1", "0 0 = -4", "-1 9 = -4", "10 0 = -6"}) {
            Doc.run(river, name + " " + call);
        }
        Doc.run(river, name + " 9 5 = " + ofNine);
    }

    private static void promisesOfTheRow() {
        Doc.says("## Promise 19: row\n`int row(int v)`: A number more of the ROW (0 .. 12): how many.");
        Doc.run("", "row 0 = 1, row 12 = 2, count 3 = 2");
        Doc.says("-4; -6 (12; 12, too).");
        Doc.run("", "row -1 = -4, row 13 = -6, row 0, row 0, row 0, row 0, row 0, row 0, row 0, row 0, row 0, row 0",
                "row 0, row 0 = 12, row 0 = -6, row -1 = -4");
        Doc.says("## Promise 20: fitting\n`int fitting(int what)`: FITTING (the ROW stays): how many (what 0; 0 without a ROW, a "
                + "number of it above 9), the first (1; -9).");
        Doc.run("", "fitting 0 = 0, fitting 1 = -9, row 9, fitting 0 = 15, fitting 1 = 0, row 0, fitting 0 = 2",
                "fitting 1 = 3, count 3 = 2");
        Doc.run("", "row 10, fitting 0 = 0, fitting 1 = -9, clear, row 0, row 0, row 10, fitting 0 = 0",
                "fitting 1 = -9, count 3 = 3");
        Doc.says("-2.");
        Doc.run("", "fitting 2 = -2, fitting -1 = -2");
        String river = "r1;fh00r05;";
        Doc.says("## Promise 21: judge\n`int judge(int load, int cell)`: JUDGED; -9 (the ROW stays).");
        Doc.run(river, "judge 5 0 = -9, row 0, row 8, judge 5 0 = -9, judge 6 0 = 0, judge 5 2 = 0, row 9",
                "judge 5 0 = 2, count 3 = 3");
        Doc.says("-1; -4; -6 9.");
        refusesWalkers(river, "judge", -9);
        Doc.says("## Promise 22: ends\n`int ends(int load, int cell)`: ENDS (the ROW stays).");
        Doc.run(river, "ends 5 0 = 10, row 0, ends 5 0 = 0, row 8, ends 5 0 = 8, ends 6 0 = 10, ends 5 2 = 12",
                "count 3 = 2");
        Doc.says("-1; -4; -6 9.");
        refusesWalkers(river, "ends", 15);
        Doc.says("## Promise 23: clear\n`int clear()`: The ROW has none then: how many it had.");
        Doc.run("", "clear = 0, row 1, row 2, clear = 2, count 3 = 0, clear = 0, fitting 0 = 0, row 3 = 1");
    }

    private static void lastPromises() {
        Doc.says("## Promise 24: seeds\n`int seeds(int n, int z)`: SEEDS.");
        Doc.run("r1;fh00r09;", "seeds 1 0 = 1, seeds 20 -5 = 20");
        Doc.says("-4; -6 20.");
        Doc.run("", "seeds 0 1 = -4, seeds -1 1 = -4, seeds 21 1 = -6, seeds 20 1 = 0");
        Doc.says("## Promise 25: image\n`int image()`: THE IMAGE is taken: MINUTE.");
        Doc.run("m7;", "image = 7, pass 1, image = 8, pass 1, on = 8");
        Doc.says("## Promise 26: on\n`int on()`: ON from it: MINUTE.");
        Doc.run("r2;m7;", "image, tell r5;ff40r01;m9; = 3, on = 7, count 0 = 2, count 1 = 0, count 2 = 7, pass 3",
                "on = 7");
        Doc.says("-3 there is none.");
        Doc.run("m7;", "on = -3, count 2 = 7, count 13 = 1");
        Doc.says("## Promise 27: count\n`int count(int what)`: 0 LANES, 1 FLOES, 2 MINUTE, 3 in the ROW, 4 letters, 5 all BEARS now, "
                + "11 .. 16 REFUSALS -1 .. -6.");
        Doc.run("r4;fm00r05;fg00r04;fs00r03;m7;", "row 1, letter 1, letter 1, count 0 = 4, count 1 = 3, count 2 = 7",
                "count 3 = 1, count 4 = 2, count 5 = 10");
        Doc.run("", "next 0, fitting 9, fitting 9, on, on, on, pass 0, pass 61, pass 61, count 11 = 1, count 12 = 2",
                "count 13 = 3, count 14 = 1, count 15 = 0, count 16 = 2");
        Doc.says("-9 for another what.");
        Doc.run("", "count 6 = -9, count 10 = -9, count 17 = -9, count -1 = -9, count 12 = 0");
    }

    private static void notPromised() {
        Doc.heads("## Not promised");
        Doc.heads("How the state is held inside the object is free, as are the speed of each call, the text of toString and the "
                + "behaviour of equals and hashCode. Use of one object from several threads at once is not promised to be safe. "
                + "Nothing is promised beyond the answers and state changes described above, and nothing about an object after "
                + "its 512th call.");
    }
}
