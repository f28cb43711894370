import java.util.Arrays;
import java.util.Random;

/** Drawn runs of 512 calls: the class answers what the model answers. */
public final class ModelTest {
    private static final int RUNS = 150;
    private static final int CALLS = 512;
    private static final int[] ODD = {-1, 10, 13, 41, 61, 121, 256, Integer.MIN_VALUE, Integer.MAX_VALUE};
    private static final String[] ASKING = {"floe", "is", "bears", "pass", "next", "crowd", "soonest", "leaps", "reach", "await",
        "heaviest", "needed", "poles", "from", "byNow", "row", "row", "row", "fitting", "judge", "ends", "judge", "ends",
        "clear", "seeds", "image", "on", "count", "letter", "river"};

    private static final String[] LONG_WAYS = {"r5;ff04l25;ft17l29;ft24l24;ff34l13;ft44l15;ft04l23;ff18l22;",
        "r5;ff00r11;ff16l24;ft20r17;ff34l15;ft44l15;ft04l23;fh19l21;", "r5;ff00r13;fh18r24;fm29l24;ft30l18;fs44r17;fs24l13;"};

    private final Random random;
    private final FloeToFloe x = new FloeToFloe();
    private final Model model = new Model();
    private final int run;
    private int calls;

    private ModelTest(int run) {
        this.run = run;
        this.random = new Random(run);
    }

    public static void main(String[] args) {
        for (int run = 0; run < RUNS; run++) {
            new ModelTest(run).go();
        }
        for (int way = 0; way < LONG_WAYS.length; way++) {
            new ModelTest(RUNS + way).goLongWay(LONG_WAYS[way]);
        }
        Due.end();
    }

    /** Ways that take about 40 minutes, which drawn rivers hardly ever have: from each minute and cell. */
    private void goLongWay(String text) {
        tell(text);
        for (int minute = 0; minute <= 20; minute++) {
            for (int cell = 0; cell < 10; cell++) {
                ask("soonest", 1, cell);
                if (minute % 5 == 3) {
                    ask("await", 1, cell);
                    ask("leaps", 1, cell);
                    ask("reach", 1, cell, 40);
                }
            }
            ask("pass", 1);
        }
    }

    private void go() {
        tell(riverText());
        while (calls < CALLS) {
            if (random.nextInt(60) == 0) {
                tell(random.nextInt(3) == 0 ? spoilt(riverText()) : riverText());
            }
            String name = ASKING[random.nextInt(ASKING.length)];
            if (name.equals("pass") || name.equals("on") || name.equals("poles")) {
                name = random.nextInt(4) == 0 ? name : "is";
            }
            ask(name, arguments(name));
        }
    }

    private String riverText() {
        int floes = random.nextInt(9);
        int lanes = 1 + random.nextInt(random.nextBoolean() ? 5 : 3);
        StringBuilder text = new StringBuilder("r" + lanes + ";");
        for (int f = 0; f < floes && text.length() < 70; f++) {
            text.append('f').append("fmgths".charAt(random.nextInt(6))).append(random.nextInt(lanes)).append(random.nextInt(10));
            text.append(random.nextBoolean() ? 'l' : 'r').append(random.nextInt(3)).append(1 + random.nextInt(9)).append(';');
        }
        if (random.nextInt(3) == 0) {
            text.append('m').append(random.nextInt(random.nextInt(5) == 0 ? 70 : 30)).append(';');
        }
        return text.toString();
    }

    private String spoilt(String text) {
        StringBuilder spoilt = new StringBuilder(text);
        String letters = "fmgthsrl0123456789;;;x";
        spoilt.setCharAt(random.nextInt(text.length()), letters.charAt(random.nextInt(letters.length())));
        return random.nextBoolean() ? spoilt.toString() : spoilt.substring(0, random.nextInt(text.length()));
    }

    private void tell(String text) {
        for (int i = 0; i < text.length(); i++) {
            ask("letter", text.charAt(i));
        }
        ask("river");
    }

    private int[] arguments(String name) {
        int[] given = new int[Due.parametersOf(name)];
        for (int i = 0; i < given.length; i++) {
            given[i] = random.nextInt(60) == 0 ? ODD[random.nextInt(ODD.length)] : argument(name, i);
        }
        return given;
    }

    private int argument(String name, int i) {
        switch (name) {
            case "floe":
                return random.nextInt(i == 0 ? 8 : 5);
            case "is", "bears":
                return random.nextInt(i == 0 ? 8 : 121);
            case "pass":
                return 1 + random.nextInt(12);
            case "next":
                return random.nextInt(8);
            case "crowd":
                return random.nextInt(121);
            case "reach":
                return i == 0 ? load() : random.nextInt(i == 1 ? 10 : 41);
            case "heaviest":
                return random.nextInt(10);
            case "from":
                return load();
            case "byNow":
                return i == 0 ? load() : random.nextInt(i == 1 ? 8 : 1 + model.call("count", 2));
            case "row":
                return random.nextInt(13);
            case "fitting":
                return random.nextInt(2);
            case "seeds":
                return i == 0 ? 1 + random.nextInt(20) : random.nextInt();
            case "count":
                return random.nextInt(18);
            case "letter":
                return random.nextInt(256);
            default:
                return i == 0 ? load() : random.nextInt(10);
        }
    }

    private int load() {
        return 1 + random.nextInt(random.nextBoolean() ? 4 : 9);
    }

    private void ask(String name, int... given) {
        String call = "run " + run + ", call " + calls + ": " + name + Arrays.toString(given);
        Due.is(call, Due.call(x, name, given), model.call(name, given));
        calls++;
    }
}
