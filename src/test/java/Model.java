import java.util.ArrayList;
import java.util.Arrays;
import java.util.HashSet;
import java.util.List;
import java.util.Set;
import java.util.TreeMap;
import java.util.regex.Matcher;
import java.util.regex.Pattern;

/**
 * The document once more, written another way than the class: places are texts ("s3" the south bank at
 * cell 3, "f2" on floe 2, "n" the north bank) and the acts of a minute are listed one by one.
 */
final class Model {
    private record Floe(char kind, int lane, int cell, int pace, int bears) {
    }

    private record Act(String to, boolean leap, int number) {
    }

    private static final Pattern FLOE = Pattern.compile("f([fmgths])(\\d)(\\d)([lr])(\\d)(\\d);");
    private static final Pattern STATEMENT = Pattern.compile("r\\d;|f[fmgths]\\d\\d[lr]\\d\\d;|m\\d\\d?;");

    private int lanes = 3;
    private int minute;
    private List<Floe> floes = new ArrayList<>();
    private String letters = "";
    private final List<Integer> row = new ArrayList<>();
    private final int[] refused = new int[10];
    private int imageLanes;
    private int imageMinute;
    private List<Floe> imageFloes;

    /** Calls a method by its name. */
    int call(String name, int... a) {
        int answer = answer(name, a);
        boolean refusal = answer < 0 && answer > -9 && !name.equals("river");
        if (refusal) {
            refused[-answer]++;
        }
        return answer;
    }

    private int answer(String name, int[] a) {
        switch (name) {
            case "letter":
                if (a[0] < 0) {
                    return -4;
                }
                if (a[0] > 255 || letters.length() == 80) {
                    return -6;
                }
                letters += (char) a[0];
                return letters.length();
            case "river":
                return river();
            case "floe":
                return noFloe(a[0]) ? -1 : a[1] < 0 || a[1] > 4 ? -2 : told(floes.get(a[0]), a[1]);
            case "is":
                return noFloe(a[0]) ? -1 : a[1] < 0 ? -4 : a[1] > 120 ? -6 : where(floes.get(a[0]), a[1]);
            case "bears":
                return noFloe(a[0]) ? -1 : a[1] < 0 ? -4 : a[1] > 120 ? -6 : bears(floes.get(a[0]), a[1]);
            case "pass":
                if (a[0] < 1) {
                    return -4;
                }
                if (a[0] > 60 || a[0] + minute > 60) {
                    return -6;
                }
                minute += a[0];
                return minute;
            case "next":
                return noFloe(a[0]) ? -1 : next(a[0]);
            case "crowd":
                return a[0] < 0 ? -4 : a[0] > 120 ? -6 : crowd(a[0]);
            case "soonest", "leaps", "await", "needed", "poles", "judge", "ends":
                return noCell(a[1]) ? -1 : a[0] < 1 ? -4 : a[0] > 9 ? -6 : walker(name, a[0], a[1]);
            case "reach":
                return noCell(a[1]) ? -1 : a[0] < 1 || a[2] < 0 ? -4 : a[0] > 9 || a[2] > 40 ? -6 : reach(a[0], a[1], a[2]);
            case "heaviest":
                return noCell(a[0]) ? -1 : heaviest(a[0]);
            case "from":
                return a[0] < 1 ? -4 : a[0] > 9 ? -6 : from(a[0]);
            case "byNow":
                return noFloe(a[1]) ? -1 : a[0] < 1 || a[2] < 0 ? -4 : a[0] > 9 || a[2] > minute ? -6
                        : byNow(a[0], a[1], a[2]);
            case "row":
                if (a[0] < 0) {
                    return -4;
                }
                if (a[0] > 12 || row.size() == 12) {
                    return -6;
                }
                row.add(a[0]);
                return row.size();
            case "fitting":
                return a[0] != 0 && a[0] != 1 ? -2 : fitting(a[0]);
            case "clear":
                int had = row.size();
                row.clear();
                return had;
            case "seeds":
                return a[0] < 1 ? -4 : a[0] > 20 ? -6 : seeds(a[0], a[1]);
            case "image":
                imageLanes = lanes;
                imageMinute = minute;
                imageFloes = new ArrayList<>(floes);
                return minute;
            case "on":
                if (imageFloes == null) {
                    return -3;
                }
                lanes = imageLanes;
                minute = imageMinute;
                floes = new ArrayList<>(imageFloes);
                return minute;
            case "count":
                return count(a[0]);
            default:
                throw new IllegalArgumentException(name);
        }
    }

    private boolean noFloe(int floe) {
        return floe < 0 || floe >= floes.size();
    }

    private static boolean noCell(int cell) {
        return cell < 0 || cell > 9;
    }

    private int river() {
        String text = letters;
        letters = "";
        // A text can go on to be a river if some ending makes it one: the endings of a statement are few.
        for (int end = 1; end <= text.length(); end++) {
            if (!canGoOn(text.substring(0, end))) {
                return -1000 - (end - 1);
            }
        }
        if (!text.endsWith(";")) {
            return -1000 - text.length();
        }
        int newLanes = lanes;
        int newMinute = minute;
        List<Floe> newFloes = new ArrayList<>(floes);
        int place = 0;
        int many = 0;
        for (String statement : text.split("(?<=;)")) {
            Matcher floe = FLOE.matcher(statement);
            boolean right;
            if (floe.matches()) {
                int pace = (floe.group(4).equals("l") ? -1 : 1) * Integer.parseInt(floe.group(5));
                Floe told = new Floe(floe.group(1).charAt(0), Integer.parseInt(floe.group(2)), Integer.parseInt(floe.group(3)),
                        pace, Integer.parseInt(floe.group(6)));
                right = told.lane < newLanes && Math.abs(pace) < 3 && told.bears > 0 && newFloes.size() < 8;
                newFloes.add(told);
            } else {
                int number = Integer.parseInt(statement.substring(1, statement.length() - 1));
                if (statement.charAt(0) == 'm') {
                    right = number < 61;
                    newMinute = number;
                } else {
                    right = number > 0 && number < 6 && newFloes.stream().allMatch(f -> f.lane < number);
                    newLanes = number;
                }
            }
            if (!right) {
                return -2000 - place;
            }
            place += statement.length();
            many++;
        }
        lanes = newLanes;
        minute = newMinute;
        floes = newFloes;
        return many;
    }

    private static boolean canGoOn(String text) {
        int from = text.lastIndexOf(';', text.length() - 2) + 1;
        String last = text.substring(from);
        for (String ending : new String[] {"", ";", "0;", "00;", "r00;", "0r00;", "00r00;", "f00r00;"}) {
            if (STATEMENT.matcher(last + ending).matches()) {
                return true;
            }
        }
        return false;
    }

    private int told(Floe f, int what) {
        return new int[] {"fmgths".indexOf(f.kind), f.lane, f.cell, f.pace + 2, f.bears}[what];
    }

    private static int where(Floe f, int m) {
        int times = f.kind == 'h' ? 0 : f.kind == 't' ? new int[] {0, 1, 2, 3, 2, 1}[m % 6] : m;
        return ((f.cell + f.pace * times) % 10 + 10) % 10;
    }

    private static int bears(Floe f, int m) {
        switch (f.kind) {
            case 'm':
                return Math.max(f.bears - m / 4, 0);
            case 'g':
                int melted = Math.max(f.bears - m / 4, 0);
                return m % 2 == 1 ? Math.max(melted - 1, 0) : melted;
            case 's':
                return f.bears + m / 6;
            default:
                return f.bears;
        }
    }

    private static boolean near(int a, int b) {
        return a == b || (a + 1) % 10 == b || (b + 1) % 10 == a;
    }

    private int whereWithPoles(int f, int m, int poles) {
        return where(floes.get(f), (poles & 1 << f) != 0 ? minute : m);
    }

    /** All that somebody may do at a place in a minute, with the numbers that a row has for it. */
    private List<Act> acts(String place, int load, int m, int without, int poles) {
        List<Act> acts = new ArrayList<>();
        acts.add(new Act(place, false, 9));
        int at = place.length() > 1 ? place.charAt(1) - '0' : -1;
        if (place.startsWith("s")) {
            acts.add(new Act("s" + (at + 9) % 10, false, 10));
            acts.add(new Act("s" + (at + 1) % 10, false, 11));
            for (int f = 0; f < floes.size(); f++) {
                if (floes.get(f).lane == 0 && near(at, whereWithPoles(f, m, poles))) {
                    acts.add(new Act("f" + f, true, f));
                }
            }
        } else if (place.startsWith("f")) {
            int lane = floes.get(at).lane;
            int cell = whereWithPoles(at, m, poles);
            for (int f = 0; f < floes.size(); f++) {
                boolean beside = floes.get(f).lane == lane + 1 || floes.get(f).lane == lane - 1;
                if (beside && near(cell, whereWithPoles(f, m, poles))) {
                    acts.add(new Act("f" + f, true, f));
                }
            }
            if (lane == 0) {
                acts.add(new Act("s" + cell, true, 12));
            }
            if (lane == lanes - 1) {
                acts.add(new Act("n", true, 8));
            }
        }
        acts.removeIf(act -> {
            if (!act.to.startsWith("f")) {
                return false;
            }
            int f = act.to.charAt(1) - '0';
            return (without & 1 << f) != 0 || bears(floes.get(f), m) < load || bears(floes.get(f), m + 1) < load;
        });
        return acts;
    }

    /** The places where he can be behind n minutes, each with its fewest leaps. */
    private TreeMap<String, Integer> placesBehind(String place, int load, int start, int n, int without, int poles) {
        TreeMap<String, Integer> places = new TreeMap<>();
        places.put(place, 0);
        for (int t = 0; t < n; t++) {
            TreeMap<String, Integer> later = new TreeMap<>();
            for (var entry : places.entrySet()) {
                for (Act act : acts(entry.getKey(), load, start + t, without, poles)) {
                    later.merge(act.to, entry.getValue() + (act.leap ? 1 : 0), Math::min);
                }
            }
            places = later;
        }
        return places;
    }

    private int soonest(int load, int cell, int start, int without, int poles) {
        Set<String> places = new HashSet<>(Set.of("s" + cell));
        for (int t = 0; t <= 40; t++) {
            if (places.contains("n")) {
                return t;
            }
            Set<String> later = new HashSet<>();
            for (String place : places) {
                for (Act act : acts(place, load, start + t, without, poles)) {
                    later.add(act.to);
                }
            }
            places = later;
        }
        return -9;
    }

    private boolean over(int load, int cell, int without, int poles) {
        return soonest(load, cell, minute, without, poles) >= 0;
    }

    private int walker(String name, int load, int cell) {
        switch (name) {
            case "soonest":
                return soonest(load, cell, minute, 0, 0);
            case "leaps":
                return placesBehind("s" + cell, load, minute, 40, 0, 0).getOrDefault("n", -9);
            case "await":
                int longest = -9;
                for (int wait = 0; wait <= 40; wait++) {
                    if (soonest(load, cell, minute + wait, 0, 0) >= 0) {
                        longest = wait;
                    }
                }
                return longest;
            case "needed":
                int needed = 0;
                for (int f = 0; f < floes.size(); f++) {
                    if (over(load, cell, 0, 0) && !over(load, cell, 1 << f, 0)) {
                        needed += 1 << f;
                    }
                }
                return needed;
            case "poles":
                int best = -9;
                for (int set = (1 << floes.size()) - 1; set >= 0; set--) {
                    boolean fewer = best < 0 || Integer.bitCount(set) <= Integer.bitCount(best);
                    if (fewer && over(load, cell, 0, set)) {
                        best = set;
                    }
                }
                return best;
            default:
                return follow(name.equals("judge"), load, cell);
        }
    }

    private int follow(boolean judge, int load, int cell) {
        String place = "s" + cell;
        for (int i = 0; i < row.size(); i++) {
            String later = null;
            for (Act act : acts(place, load, minute + i, 0, 0)) {
                if (act.number == row.get(i) && !place.equals("n")) {
                    later = act.to;
                }
            }
            if (later == null) {
                return judge ? i : number(place);
            }
            place = later;
        }
        return judge ? -9 : number(place);
    }

    private static int number(String place) {
        return place.equals("n") ? 8 : place.charAt(1) - '0' + (place.startsWith("s") ? 10 : 0);
    }

    private int reach(int load, int cell, int n) {
        int bits = 0;
        for (String place : placesBehind("s" + cell, load, minute, n, 0, 0).keySet()) {
            bits |= place.equals("n") ? 256 : place.startsWith("s") ? 512 : 1 << place.charAt(1) - '0';
        }
        return bits;
    }

    private int heaviest(int cell) {
        int heaviest = 0;
        for (int load = 1; load <= 9; load++) {
            heaviest = over(load, cell, 0, 0) ? load : heaviest;
        }
        return heaviest;
    }

    private int from(int load) {
        int cells = 0;
        for (int cell = 0; cell < 10; cell++) {
            cells += over(load, cell, 0, 0) ? 1 << cell : 0;
        }
        return cells;
    }

    private int byNow(int load, int floe, int n) {
        int bits = 0;
        for (String place : placesBehind("f" + floe, load, minute - n, n, 0, 0).keySet()) {
            bits += place.startsWith("f") ? 1 << place.charAt(1) - '0' : 0;
        }
        return bits;
    }

    private int next(int floe) {
        int bits = 0;
        for (int f = 0; f < floes.size(); f++) {
            boolean beside = Math.abs(floes.get(f).lane - floes.get(floe).lane) == 1;
            if (beside && near(where(floes.get(f), minute), where(floes.get(floe), minute))) {
                bits += 1 << f;
            }
        }
        return bits;
    }

    private int crowd(int m) {
        int[][] many = new int[5][10];
        for (Floe f : floes) {
            many[f.lane][where(f, m)]++;
        }
        return Arrays.stream(many).flatMapToInt(Arrays::stream).filter(n -> n > 1).sum();
    }

    private int fitting(int what) {
        List<Integer> fitting = new ArrayList<>();
        for (int kind = 0; kind < 3 && !row.isEmpty(); kind++) {
            for (int pace = -2; pace <= 2; pace++) {
                boolean fits = row.stream().allMatch(v -> v < 10);
                for (int m = 0; m < row.size(); m++) {
                    fits &= where(new Floe("fth".charAt(kind), 0, row.get(0), pace, 1), m) == row.get(m);
                }
                if (fits) {
                    fitting.add(10 * kind + pace + 2);
                }
            }
        }
        return what == 0 ? fitting.size() : fitting.isEmpty() ? -9 : fitting.get(0);
    }

    private int seeds(int n, int seed) {
        long z = seed;
        int many = 0;
        for (int i = 0; i < n; i++) {
            z = (int) (z * 1664525L + 1013904223L);
            int cell = (int) ((z & 0x7FFFFFFFL) >> 8) % 10;
            z = (int) (z * 1664525L + 1013904223L);
            int load = (int) ((z & 0x7FFFFFFFL) >> 8) % 9 + 1;
            many += over(load, cell, 0, 0) ? 1 : 0;
        }
        return many;
    }

    private int count(int what) {
        switch (what) {
            case 0:
                return lanes;
            case 1:
                return floes.size();
            case 2:
                return minute;
            case 3:
                return row.size();
            case 4:
                return letters.length();
            case 5:
                return floes.stream().mapToInt(f -> bears(f, minute)).sum();
            default:
                return what > 10 && what < 17 ? refused[what - 10] : -9;
        }
    }
}
