import java.util.ArrayList;
import java.util.Arrays;
import java.util.List;

/**
 * Every bound of an argument on both sides, which refusal comes first where two hold, and what a refused
 * call leaves behind: nothing but its number among the refusals.
 */
public final class RefusedTest {
    private static final int NOBODY = -1;
    private static final int OTHER = -2;
    private static final int STATE = -3;
    private static final int BELOW = -4;
    private static final int ROOM = -6;
    private static final int LEAST = Integer.MIN_VALUE;
    private static final int MOST = Integer.MAX_VALUE;
    private static final String[] WALKERS = {"soonest", "leaps", "await", "needed", "poles", "judge", "ends"};

    /** The states from which the calls are made. */
    private enum From { NEW, USUAL, FULL }

    public static void main(String[] args) {
        letter();
        floe();
        looks();
        pass();
        nextAndCrowd();
        walkers();
        reach();
        heaviestAndFrom();
        byNow();
        row();
        fitting();
        seeds();
        on();
        count();
        riverWithFault();
        everyRefusalIsCountedForItself();
        Due.end();
    }

    private static void letter() {
        taken(From.NEW, 1, "letter", 0);
        refused(From.NEW, BELOW, "letter", -1);
        refused(From.NEW, BELOW, "letter", LEAST);
        taken(From.NEW, 1, "letter", 255);
        refused(From.NEW, ROOM, "letter", 256);
        refused(From.NEW, ROOM, "letter", MOST);
        refused(From.USUAL, BELOW, "letter", -1);
        refused(From.USUAL, ROOM, "letter", 256);
        // The 80th is taken, the 81st is not; -4 comes first, where both hold.
        FloeToFloe x = made(From.NEW);
        for (int i = 1; i <= 79; i++) {
            x.letter('m');
        }
        Due.is("the 80th letter", x.letter('m'), 80);
        Due.is("the 81st letter", x.letter('m'), ROOM);
        refused(From.FULL, ROOM, "letter", 'r');
        refused(From.FULL, ROOM, "letter", 256);
        refused(From.FULL, BELOW, "letter", -1);
    }

    private static void floe() {
        refused(From.NEW, NOBODY, "floe", 0, 0);
        refused(From.NEW, NOBODY, "floe", 0, -1);
        taken(From.USUAL, 1, "floe", 0, 0);
        refused(From.USUAL, NOBODY, "floe", -1, 0);
        refused(From.USUAL, NOBODY, "floe", LEAST, 0);
        taken(From.USUAL, 4, "floe", 5, 0);
        refused(From.USUAL, NOBODY, "floe", 6, 0);
        refused(From.USUAL, NOBODY, "floe", MOST, 0);
        taken(From.FULL, 9, "floe", 7, 4);
        refused(From.FULL, NOBODY, "floe", 8, 4);
        refused(From.USUAL, OTHER, "floe", 0, -1);
        refused(From.USUAL, OTHER, "floe", 0, LEAST);
        taken(From.USUAL, 5, "floe", 0, 4);
        refused(From.USUAL, OTHER, "floe", 0, 5);
        refused(From.USUAL, OTHER, "floe", 0, MOST);
        refused(From.USUAL, NOBODY, "floe", 6, 5);
        refused(From.USUAL, NOBODY, "floe", -1, -1);
    }

    private static void looks() {
        int[] first = {0, 5};
        int[] last = {0, 0};
        String[] names = {"is", "bears"};
        for (int i = 0; i < names.length; i++) {
            refused(From.NEW, NOBODY, names[i], 0, 0);
            taken(From.USUAL, first[i], names[i], 0, 0);
            refused(From.USUAL, NOBODY, names[i], -1, 0);
            taken(From.USUAL, i == 0 ? 4 : 7, names[i], 5, 0);
            refused(From.USUAL, NOBODY, names[i], 6, 0);
            taken(From.FULL, i == 0 ? 8 : 9, names[i], 7, 0);
            refused(From.FULL, NOBODY, names[i], 8, 0);
            refused(From.USUAL, BELOW, names[i], 0, -1);
            refused(From.USUAL, BELOW, names[i], 0, LEAST);
            taken(From.USUAL, last[i], names[i], 0, 120);
            refused(From.USUAL, ROOM, names[i], 0, 121);
            refused(From.USUAL, ROOM, names[i], 0, MOST);
            refused(From.USUAL, NOBODY, names[i], 6, -1);
            refused(From.USUAL, NOBODY, names[i], -1, 121);
        }
    }

    private static void pass() {
        taken(From.NEW, 1, "pass", 1);
        refused(From.NEW, BELOW, "pass", 0);
        refused(From.NEW, BELOW, "pass", LEAST);
        taken(From.NEW, 60, "pass", 60);
        refused(From.NEW, ROOM, "pass", 61);
        refused(From.NEW, ROOM, "pass", MOST);
        taken(From.USUAL, 60, "pass", 37);
        refused(From.USUAL, ROOM, "pass", 38);
        refused(From.USUAL, ROOM, "pass", 60);
        refused(From.FULL, ROOM, "pass", 1);
        refused(From.FULL, ROOM, "pass", 61);
        refused(From.FULL, BELOW, "pass", 0);
        refused(From.FULL, BELOW, "pass", -60);
    }

    private static void nextAndCrowd() {
        refused(From.NEW, NOBODY, "next", 0);
        refused(From.USUAL, NOBODY, "next", -1);
        taken(From.USUAL, 8, "next", 5);
        refused(From.USUAL, NOBODY, "next", 6);
        taken(From.FULL, 0, "next", 7);
        refused(From.FULL, NOBODY, "next", 8);
        refused(From.FULL, NOBODY, "next", MOST);
        taken(From.USUAL, 0, "crowd", 0);
        refused(From.USUAL, BELOW, "crowd", -1);
        refused(From.USUAL, BELOW, "crowd", LEAST);
        taken(From.USUAL, 0, "crowd", 120);
        refused(From.USUAL, ROOM, "crowd", 121);
        refused(From.USUAL, ROOM, "crowd", MOST);
    }

    private static void walkers() {
        for (String name : WALKERS) {
            for (From from : From.values()) {
                refused(from, NOBODY, name, 1, -1);
                refused(from, NOBODY, name, 1, LEAST);
                refused(from, NOBODY, name, 1, 10);
                refused(from, NOBODY, name, 1, MOST);
                refused(from, BELOW, name, 0, 0);
                refused(from, BELOW, name, LEAST, 9);
                refused(from, ROOM, name, 10, 0);
                refused(from, ROOM, name, MOST, 9);
                refused(from, NOBODY, name, 0, 10);
                refused(from, NOBODY, name, 0, -1);
                refused(from, NOBODY, name, 10, -1);
                refused(from, NOBODY, name, 10, 10);
            }
        }
        // Loads 1 and 9, cells 0 and 9: on the full river floe 7 alone bears anybody, held at cell 8 of the one lane.
        int[][] due = {{3, 2}, {2, 2}, {40, 40}, {128, 128}, {0, 0}, {11, 11}, {11, 10}};
        for (int i = 0; i < WALKERS.length; i++) {
            for (int load : new int[] {1, 9}) {
                taken(From.FULL, due[i][0], WALKERS[i], load, 0);
                taken(From.FULL, due[i][1], WALKERS[i], load, 9);
            }
        }
    }

    private static void reach() {
        for (From from : From.values()) {
            taken(from, 512, "reach", 1, 0, 0);
            taken(from, 512, "reach", 9, 9, 0);
            refused(from, NOBODY, "reach", 1, -1, 0);
            refused(from, NOBODY, "reach", 1, 10, 0);
            refused(from, BELOW, "reach", 0, 0, 0);
            refused(from, BELOW, "reach", 1, 0, -1);
            refused(from, BELOW, "reach", 1, 0, LEAST);
            refused(from, ROOM, "reach", 10, 0, 0);
            refused(from, ROOM, "reach", 1, 0, 41);
            refused(from, ROOM, "reach", 1, 0, MOST);
            // Two hold: the cell is told first, then -4 of either number, then -6 of either.
            refused(from, NOBODY, "reach", 0, 10, 0);
            refused(from, NOBODY, "reach", 10, -1, 0);
            refused(from, NOBODY, "reach", 1, 10, -1);
            refused(from, NOBODY, "reach", 1, -1, 41);
            refused(from, BELOW, "reach", 0, 0, 41);
            refused(from, BELOW, "reach", 10, 0, -1);
            refused(from, BELOW, "reach", 0, 0, -1);
            refused(from, ROOM, "reach", 10, 0, 41);
        }
        taken(From.NEW, 512, "reach", 1, 0, 40);
        taken(From.FULL, 512 + 256 + 128, "reach", 9, 0, 40);
    }

    private static void heaviestAndFrom() {
        for (From from : From.values()) {
            refused(from, NOBODY, "heaviest", -1);
            refused(from, NOBODY, "heaviest", LEAST);
            refused(from, NOBODY, "heaviest", 10);
            refused(from, NOBODY, "heaviest", MOST);
            refused(from, BELOW, "from", 0);
            refused(from, BELOW, "from", LEAST);
            refused(from, ROOM, "from", 10);
            refused(from, ROOM, "from", MOST);
            int over = from == From.FULL ? 1 : 0;
            taken(from, 9 * over, "heaviest", 0);
            taken(from, 9 * over, "heaviest", 9);
            taken(from, 1023 * over, "from", 1);
            taken(from, 1023 * over, "from", 9);
        }
    }

    private static void byNow() {
        refused(From.NEW, NOBODY, "byNow", 1, 0, 0);
        refused(From.NEW, NOBODY, "byNow", 0, 0, 1);
        taken(From.USUAL, 1, "byNow", 1, 0, 0);
        taken(From.USUAL, 32, "byNow", 9, 5, 0);
        refused(From.USUAL, NOBODY, "byNow", 1, -1, 0);
        refused(From.USUAL, NOBODY, "byNow", 1, 6, 0);
        refused(From.USUAL, BELOW, "byNow", 0, 0, 0);
        refused(From.USUAL, ROOM, "byNow", 10, 0, 0);
        refused(From.USUAL, BELOW, "byNow", 1, 0, -1);
        refused(From.USUAL, BELOW, "byNow", 1, 0, LEAST);
        taken(From.USUAL, 8 + 32, "byNow", 6, 5, 23);
        refused(From.USUAL, ROOM, "byNow", 6, 5, 24);
        refused(From.USUAL, ROOM, "byNow", 6, 5, MOST);
        taken(From.FULL, 128, "byNow", 9, 7, 60);
        refused(From.FULL, ROOM, "byNow", 9, 7, 61);
        refused(From.FULL, NOBODY, "byNow", 9, 8, 0);
        // Two hold: the floe is told first, then -4 of either number, then -6 of either.
        refused(From.USUAL, NOBODY, "byNow", 0, 6, 0);
        refused(From.USUAL, NOBODY, "byNow", 10, -1, 0);
        refused(From.USUAL, NOBODY, "byNow", 1, 6, -1);
        refused(From.USUAL, NOBODY, "byNow", 1, -1, 24);
        refused(From.USUAL, BELOW, "byNow", 0, 0, 24);
        refused(From.USUAL, BELOW, "byNow", 10, 0, -1);
        refused(From.USUAL, BELOW, "byNow", 0, 0, -1);
        refused(From.USUAL, ROOM, "byNow", 10, 0, 24);
    }

    private static void row() {
        taken(From.NEW, 1, "row", 0);
        refused(From.NEW, BELOW, "row", -1);
        refused(From.NEW, BELOW, "row", LEAST);
        taken(From.NEW, 1, "row", 12);
        refused(From.NEW, ROOM, "row", 13);
        refused(From.NEW, ROOM, "row", MOST);
        refused(From.USUAL, BELOW, "row", -1);
        refused(From.USUAL, ROOM, "row", 13);
        // The 12th is taken, the 13th is not; -4 comes first, where both hold.
        FloeToFloe x = made(From.NEW);
        for (int i = 1; i <= 11; i++) {
            x.row(9);
        }
        Due.is("the 12th number", x.row(9), 12);
        Due.is("the 13th number", x.row(9), ROOM);
        refused(From.FULL, ROOM, "row", 0);
        refused(From.FULL, ROOM, "row", 13);
        refused(From.FULL, BELOW, "row", -1);
    }

    private static void fitting() {
        for (From from : From.values()) {
            taken(from, 0, "fitting", 0);
            refused(from, OTHER, "fitting", -1);
            refused(from, OTHER, "fitting", LEAST);
            taken(from, -9, "fitting", 1);
            refused(from, OTHER, "fitting", 2);
            refused(from, OTHER, "fitting", MOST);
        }
    }

    private static void seeds() {
        for (From from : From.values()) {
            taken(from, from == From.FULL ? 1 : 0, "seeds", 1, 0);
            refused(from, BELOW, "seeds", 0, 0);
            refused(from, BELOW, "seeds", LEAST, 0);
            taken(from, from == From.FULL ? 20 : 0, "seeds", 20, LEAST);
            refused(from, ROOM, "seeds", 21, LEAST);
            refused(from, ROOM, "seeds", MOST, 0);
        }
    }

    private static void on() {
        refused(From.NEW, STATE, "on");
        refused(From.FULL, STATE, "on");
        taken(From.USUAL, 20, "on");
    }

    private static void count() {
        FloeToFloe x = made(From.USUAL);
        int[] state = stateOf(made(From.USUAL));
        for (int what : new int[] {LEAST, -1, 6, 7, 8, 9, 10, 17, MOST}) {
            Due.is("another what: count(" + what + ")", x.count(what), -9);
        }
        Due.isTrue("another what leaves all as it was, and is not counted", Arrays.equals(stateOf(x), state));
        int[] due = {5, 6, 23, 6, 6, 21, -9};
        for (int what = 0; what < due.length; what++) {
            Due.is("count(" + what + ")", made(From.USUAL).count(what), due[what]);
        }
        int[] refusals = {-9, 1, 2, 3, 4, 0, 5, -9};
        for (int i = 0; i < refusals.length; i++) {
            Due.is("count(" + (10 + i) + ")", made(From.USUAL).count(10 + i), refusals[i]);
        }
    }

    /** With a fault nothing comes, nothing is counted, and the letters are no more. */
    private static void riverWithFault() {
        String[] texts = {"", ";", "x", "r5", "r5;m20;ff00r01;m", "r0;", "r6;", "r5;m20;m61;", "r4;", "m1;ff00r01;ff50r01;",
            "ff40r01;ff40r01;ff40r01;"};
        int[] faults = {-1000, -1000, -1000, -1002, -1016, -2000, -2000, -2007, -2000, -2011, -2016};
        for (int i = 0; i < texts.length; i++) {
            FloeToFloe x = made(From.USUAL);
            FloeToFloe twin = made(From.USUAL);
            x.river();
            twin.river();
            Due.is("fault of \"" + texts[i] + "\"", Due.tell(x, texts[i]), faults[i]);
            Due.is("letters behind it", x.count(4), 0);
            Due.isTrue("\"" + texts[i] + "\" leaves all as it was", Arrays.equals(stateOf(x), stateOf(twin)));
        }
    }

    private static void everyRefusalIsCountedForItself() {
        FloeToFloe x = new FloeToFloe();
        int[] due = new int[7];
        for (int round = 1; round <= 9; round++) {
            Object[][] calls = {{NOBODY, "next", 0}, {OTHER, "fitting", 2}, {STATE, "on"}, {BELOW, "pass", 0}, {ROOM, "pass", 61}};
            for (Object[] call : calls) {
                int number = (int) call[0];
                int[] given = Arrays.stream(call).skip(2).mapToInt(a -> (int) a).toArray();
                Due.is("round " + round + ": " + call[1], Due.call(x, (String) call[1], given), number);
                due[-number]++;
                for (int r = 1; r <= 6; r++) {
                    Due.is("round " + round + ", behind " + call[1] + ": count(" + (10 + r) + ")", x.count(10 + r), due[r]);
                }
            }
        }
    }

    private static void taken(From from, int want, String name, int... given) {
        FloeToFloe x = made(from);
        int[] refusals = refusalsOf(x);
        String call = from + ": " + name + Arrays.toString(given);
        Due.is(call, Due.call(x, name, given), want);
        Due.isTrue(call + " is not counted as refused", Arrays.equals(refusalsOf(x), refusals));
    }

    private static void refused(From from, int want, String name, int... given) {
        FloeToFloe x = made(from);
        int[] refusals = refusalsOf(x);
        String call = from + ": " + name + Arrays.toString(given);
        Due.is(call, Due.call(x, name, given), want);
        refusals[-want]++;
        Due.isTrue(call + " is counted, and no other", Arrays.equals(refusalsOf(x), refusals));
        FloeToFloe twin = made(from);
        Due.isTrue(call + " leaves all else as it was", Arrays.equals(elseOf(x), elseOf(twin)));
    }

    private static int[] refusalsOf(FloeToFloe x) {
        int[] refusals = new int[7];
        for (int r = 1; r <= 6; r++) {
            refusals[r] = x.count(10 + r);
        }
        return refusals;
    }

    private static int[] stateOf(FloeToFloe x) {
        int[] refusals = refusalsOf(x);
        int[] other = elseOf(x);
        int[] all = Arrays.copyOf(refusals, refusals.length + other.length);
        System.arraycopy(other, 0, all, refusals.length, other.length);
        return all;
    }

    /** All that can be asked of an object but its refusals; its letters become a river and its row is cleared for it. */
    private static int[] elseOf(FloeToFloe x) {
        List<Integer> seen = new ArrayList<>();
        addRiver(x, seen);
        for (int cell = 0; cell < 10; cell += 3) {
            seen.add(x.judge(1, cell));
            seen.add(x.ends(1, cell));
        }
        seen.add(x.fitting(0));
        seen.add(x.fitting(1));
        seen.add(x.river());
        addRiver(x, seen);
        seen.add(x.clear());
        seen.add(x.on());
        addRiver(x, seen);
        return seen.stream().mapToInt(Integer::intValue).toArray();
    }

    private static void addRiver(FloeToFloe x, List<Integer> seen) {
        for (int what = 0; what <= 5; what++) {
            seen.add(x.count(what));
        }
        for (int f = 0; f < x.count(1); f++) {
            for (int what = 0; what <= 4; what++) {
                seen.add(x.floe(f, what));
            }
            seen.add(x.is(f, 17));
            seen.add(x.bears(f, 17));
            seen.add(x.next(f));
        }
        seen.add(x.soonest(1, 0));
        seen.add(x.from(2));
    }

    private static FloeToFloe made(From from) {
        return from == From.NEW ? new FloeToFloe() : from == From.USUAL ? usual() : full();
    }

    /** An image of another river, minutes gone by, refusals of all numbers, a row and letters that wait. */
    private static FloeToFloe usual() {
        FloeToFloe x = new FloeToFloe();
        for (int i = 0; i < 3; i++) {
            x.on();
        }
        Due.tell(x, "r4;fm00r15;fg11l24;ft29r13;fh35r16;fs04r02;m20;");
        x.image();
        x.pass(3);
        Due.tell(x, "r5;fh44r07;");
        x.next(6);
        for (int i = 0; i < 2; i++) {
            x.fitting(2);
        }
        for (int i = 0; i < 4; i++) {
            x.pass(0);
        }
        for (int i = 0; i < 5; i++) {
            x.pass(61);
        }
        Due.row(x, 11, 10, 10, 9, 11, 12);
        for (char letter : new char[] {'m', '9', ';', 'r', '5', ';'}) {
            x.letter(letter);
        }
        return x;
    }

    /** Eight floes in one lane, minute 60, 80 letters, twelve numbers in the row. */
    private static FloeToFloe full() {
        FloeToFloe x = Due.river("r1;fm00r01;fm01r01;fm02r01;fm03r01;fm04r01;fm05r01;");
        Due.tell(x, "fm06r01;fh08r09;m60;");
        Due.row(x, 11, 10, 10, 11, 9, 9, 9, 9, 9, 9, 11, 12);
        for (int i = 0; i < 20; i++) {
            for (char letter : new char[] {'m', '1', (char) ('0' + i % 10), ';'}) {
                x.letter(letter);
            }
        }
        return x;
    }
}
