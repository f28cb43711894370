/** Promises 1 to 4: a new object, letter, river, floe. */
public final class RiverTest {
    private static final String FLOE = "fg25l23;";

    public static void main(String[] args) {
        aNewObject();
        letter();
        statements();
        formFaults();
        everyPrefixLacks();
        everyWrongLetter();
        senseFaults();
        roomForFloes();
        allOrNothing();
        floe();
        Due.end();
    }

    private static void aNewObject() {
        FloeToFloe x = new FloeToFloe();
        Due.is("new count(0)", x.count(0), 3);
        for (int what = 1; what <= 5; what++) {
            Due.is("new count(" + what + ")", x.count(what), 0);
        }
        for (int what = 11; what <= 16; what++) {
            Due.is("new count(" + what + ")", x.count(what), 0);
        }
        Due.is("new floe(0, 0)", x.floe(0, 0), -1);
        Due.is("new on()", x.on(), -3);
        Due.is("new fitting(1)", x.fitting(1), -9);
    }

    private static void letter() {
        FloeToFloe x = new FloeToFloe();
        Due.is("letter(0)", x.letter(0), 1);
        Due.is("letter(255)", x.letter(255), 2);
        Due.is("letter(-1)", x.letter(-1), -4);
        Due.is("letter(256)", x.letter(256), -6);
        Due.is("letter(least)", x.letter(Integer.MIN_VALUE), -4);
        Due.is("letter(most)", x.letter(Integer.MAX_VALUE), -6);
        Due.is("letters behind refusals", x.count(4), 2);
        for (int i = 3; i <= 80; i++) {
            Due.is("letter " + i, x.letter(';'), i);
        }
        Due.is("letter 81", x.letter(';'), -6);
        Due.is("letter(-1) without room", x.letter(-1), -4);
        Due.is("letters", x.count(4), 80);
        Due.is("refusals -4", x.count(14), 3);
        Due.is("refusals -6", x.count(16), 3);
        Due.is("river of them", x.river(), -1000);
        Due.is("letters behind river", x.count(4), 0);
        Due.is("letter behind river", x.letter('r'), 1);
    }

    private static void statements() {
        FloeToFloe x = new FloeToFloe();
        Due.is("r5;", Due.tell(x, "r5;"), 1);
        Due.is("five lanes", x.count(0), 5);
        Due.is("r1;", Due.tell(x, "r1;"), 1);
        Due.is("one lane", x.count(0), 1);
        Due.is("m7;", Due.tell(x, "m7;"), 1);
        Due.is("minute 7", x.count(2), 7);
        Due.is("m60;", Due.tell(x, "m60;"), 1);
        Due.is("minute 60", x.count(2), 60);
        Due.is("m09;", Due.tell(x, "m09;"), 1);
        Due.is("minute 9, back from 60", x.count(2), 9);
        Due.is("m00;", Due.tell(x, "m00;"), 1);
        Due.is("minute 0", x.count(2), 0);
        Due.is("three statements", Due.tell(x, "r4;ff39l29;m12;"), 3);
        Due.is("four lanes", x.count(0), 4);
        Due.is("one floe", x.count(1), 1);
        Due.is("minute 12", x.count(2), 12);
        Due.is("a floe more", Due.tell(x, "ff00r01;"), 1);
        Due.is("two floes", x.count(1), 2);
        Due.is("the last of a kind counts", Due.tell(x, "m3;m4;r5;r4;"), 4);
        Due.is("minute 4", x.count(2), 4);
        Due.is("four lanes again", x.count(0), 4);
        Due.is("80 letters", Due.tell(x, "m00;m01;m02;m03;m04;m05;m06;m07;m08;m09;m10;m11;m12;m13;m14;m15;m16;m17;m18;m19;"),
                20);
        Due.is("26 statements", Due.tell(x, "m0;m1;m2;m3;m4;m5;m6;m7;m8;m9;m0;m1;m2;m3;m4;m5;m6;m7;m8;m9;m0;m1;m2;m3;m4;m5;"),
                26);
        Due.is("minute 5", x.count(2), 5);
        Due.is("nothing refused", x.count(11) + x.count(12) + x.count(13) + x.count(14) + x.count(16), 0);
    }

    private static void formFaults() {
        fault("", -1000);
        fault(";", -1000);
        fault("x", -1000);
        fault("R1;", -1000);
        fault("r1", -1002);
        fault("r1;;", -1003);
        fault("r1;r", -1004);
        fault("r11;", -1002);
        fault("r;", -1001);
        fault("rl;", -1001);
        fault("m;", -1001);
        fault("m1", -1002);
        fault("m12", -1003);
        fault("m123;", -1003);
        fault("mx1;", -1001);
        fault("m1x;", -1002);
        fault("m-1;", -1001);
        fault("m 1;", -1001);
        fault("ffl01r01;", -1002);
        fault("fx00r01;", -1001);
        fault("fF00r01;", -1001);
        fault("f000r01;", -1001);
        fault("ff00r011;", -1007);
        fault("ff00-01;", -1004);
        fault("m99;x", -1004);
        fault("r9;m99;ff00r00;r1", -1017);
        FloeToFloe x = new FloeToFloe();
        Due.is("80 letters that lack", Due.tell(x, "m00;m01;m02;m03;m04;m05;m06;m07;m08;m09;m10;m11;m12;m13;m14;m15;m16;m17;m18;m190"),
                -1079);
        Due.is("80 letters, the end lacks", Due.tell(x, "m00;m01;m02;m03;m04;m05;m06;m07;m08;m09;m10;m11;m12;m13;m14;m15;m16;m17;r1;m1;m1"),
                -1080);
    }

    private static void everyPrefixLacks() {
        for (String text : new String[] {FLOE, "r3;", "m5;", "m45;"}) {
            for (int end = 0; end < text.length(); end++) {
                fault(text.substring(0, end), -1000 - end);
                fault("r3;" + text.substring(0, end), end == 0 ? 1 : -1003 - end);
            }
            fault(text, 1);
        }
    }

    private static void everyWrongLetter() {
        for (int place = 0; place < FLOE.length(); place++) {
            String allowed = place == 0 ? "f" : place == 1 ? "fmgths" : place == 4 ? "lr" : place == 7 ? ";" : "0123456789";
            for (char c = 0; c < 256; c++) {
                String text = FLOE.substring(0, place) + c + FLOE.substring(place + 1);
                if (allowed.indexOf(c) < 0 && (place > 0 || c != 'r' && c != 'm')) {
                    fault(text, -1000 - place);
                } else if (place == 0 && c != 'f') {
                    fault(text, -1001);
                }
            }
        }
    }

    private static void senseFaults() {
        fault("r0;", -2000);
        fault("r6;", -2000);
        fault("r9;", -2000);
        fault("m61;", -2000);
        fault("m99;", -2000);
        fault("ff00r00;", -2000);
        fault("ff00r31;", -2000);
        fault("ff00l91;", -2000);
        fault("ff30r01;", -2000);
        fault("ff90r01;", -2000);
        fault("ff29l29;", 1);
        fault("ff00l01;", 1);
        fault("r1;ff10r01;", -2003);
        fault("r2;ff10r01;", 2);
        fault("ff10r01;r1;", -2008);
        fault("ff10r01;r2;", 2);
        fault("r5;ff40r01;r4;", -2011);
        fault("ff20r01;ff00r01;r2;", -2016);
        fault("ff00r01;ff20r01;r2;", -2016);
        fault("m5;m61;r0;", -2003);
        fault("r0;m61;", -2000);
        fault("r9;x", -1003);
        FloeToFloe x = Due.river("r5;ff40r01;");
        Due.is("lanes less than a floe of an earlier text has", Due.tell(x, "m1;r4;"), -2003);
        Due.is("its lanes", Due.tell(x, "r5;"), 1);
        x = Due.river("r1;");
        Due.is("no such lane of an earlier text", Due.tell(x, "ff10r01;"), -2000);
    }

    private static void roomForFloes() {
        FloeToFloe x = Due.river("ff00r01;ff00r01;ff00r01;ff00r01;ff00r01;ff00r01;ff00r01;");
        Due.is("seven floes", x.count(1), 7);
        Due.is("a ninth", Due.tell(x, "ff11r02;ff22r03;"), -2008);
        Due.is("still seven", x.count(1), 7);
        Due.is("an eighth", Due.tell(x, "ff11r02;"), 1);
        Due.is("eight floes", x.count(1), 8);
        Due.is("a ninth alone", Due.tell(x, "m1;ff00r01;"), -2003);
        Due.is("minute as before", x.count(2), 0);
        Due.is("the eighth", x.floe(7, 4), 2);
        Due.is("no ninth", x.floe(8, 4), -1);
    }

    private static void allOrNothing() {
        FloeToFloe x = Due.river("r4;m10;fs31l25;");
        Due.is("a fault of kind 2", Due.tell(x, "r5;m20;ff00r01;m61;"), -2015);
        Due.is("lanes", x.count(0), 4);
        Due.is("floes", x.count(1), 1);
        Due.is("minute", x.count(2), 10);
        Due.is("letters", x.count(4), 0);
        Due.is("a fault of kind 1", Due.tell(x, "r5;m20;ff00r01;m"), -1016);
        Due.is("lanes again", x.count(0), 4);
        Due.is("floes again", x.count(1), 1);
        Due.is("minute again", x.count(2), 10);
        Due.is("letters again", x.count(4), 0);
        Due.is("without a letter", x.river(), -1000);
        for (int what = 11; what <= 16; what++) {
            Due.is("a fault is no refusal: count(" + what + ")", x.count(what), 0);
        }
        Due.is("as if it had not been", Due.tell(x, "ft00r29;"), 1);
        Due.is("its kind", x.floe(1, 0), 3);
        Due.is("the kind of the first", x.floe(0, 0), 5);
    }

    private static void floe() {
        FloeToFloe x = Due.river("r5;ff00l21;fm11l12;fg22r03;ft33r14;fh44r25;");
        Due.tell(x, "fs49l09;");
        int[][] told = {{0, 0, 0, 0, 1}, {1, 1, 1, 1, 2}, {2, 2, 2, 2, 3}, {3, 3, 3, 3, 4}, {4, 4, 4, 4, 5}, {5, 4, 9, 2, 9}};
        for (int f = 0; f < told.length; f++) {
            for (int what = 0; what < 5; what++) {
                Due.is("floe(" + f + ", " + what + ")", x.floe(f, what), told[f][what]);
            }
        }
        x.pass(60);
        Due.is("the cell as told, minutes later", x.floe(0, 2), 0);
        Due.is("what it bears as told, minutes later", x.floe(1, 4), 2);
        Due.is("floe(-1, 0)", x.floe(-1, 0), -1);
        Due.is("floe(6, 0)", x.floe(6, 0), -1);
        Due.is("floe(6, 9)", x.floe(6, 9), -1);
        Due.is("floe(0, -1)", x.floe(0, -1), -2);
        Due.is("floe(0, 5)", x.floe(0, 5), -2);
        Due.is("refusals -1", x.count(11), 3);
        Due.is("refusals -2", x.count(12), 2);
    }

    private static void fault(String text, int want) {
        FloeToFloe x = new FloeToFloe();
        Due.is("river of \"" + text + "\"", Due.tell(x, text), want);
        Due.is("letters behind \"" + text + "\"", x.count(4), 0);
        if (want < 0) {
            Due.is("lanes behind \"" + text + "\"", x.count(0), 3);
            Due.is("floes behind \"" + text + "\"", x.count(1), 0);
            Due.is("minute behind \"" + text + "\"", x.count(2), 0);
        }
    }
}
