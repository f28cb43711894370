/**
 * A river of lanes with drifting floes, and somebody who walks along its south bank, leaps from
 * floe to floe and comes to the north bank. Each public method is the promise of its name in
 * DOC.md, and the names in here are the words that DOC.md explains.
 */
public final class FloeToFloe {
    private static final int NOBODY = -1;
    private static final int OTHER = -2;
    private static final int STATE = -3;
    private static final int BELOW = -4;
    private static final int ROOM = -6;
    private static final int NONE = -9;

    private static final int FIRST_LANES = 3;
    private static final int MOST_LANES = 5;
    private static final int CELLS = 10;
    private static final int MOST_FLOES = 8;
    private static final int MOST_PACE = 2;
    private static final int MOST_LOAD = 9;
    private static final int MOST_MINUTE = 60;
    private static final int MOST_LOOKED_AT = 120;
    private static final int MOST_LETTERS = 80;
    private static final int MOST_IN_ROW = 12;
    private static final int MOST_CODE = 255;
    private static final int MOST_SEEDS = 20;
    private static final int SPAN = 40;

    private static final int MELTING = 1;
    private static final int GRINDING = 2;
    private static final int TURNING = 3;
    private static final int HELD = 4;
    private static final int SWELLING = 5;

    // A set of places is one int: bits 0 .. 7 floes, bit 8 the north bank, bits 10 .. 19 the cells
    // of the south bank. So the number of a place's bit is what ENDS answers for it.
    private static final int NORTH_PLACE = 8;
    private static final int SOUTH_PLACE = 10;
    private static final int ALL_FLOES = 255;
    private static final int NORTH = 256;
    private static final int ALL_CELLS = 1023;
    private static final int SOUTH = ALL_CELLS << SOUTH_PLACE;
    private static final int REACHED_SOUTH = 512;

    private static final int STAYS = 9;
    private static final int WALKS_LESS = 10;
    private static final int WALKS_GREATER = 11;
    private static final int LEAPS_SOUTH = 12;

    // All rows are made here and used again: the calls of a run share one room, so none makes an object.
    private final Walk walk = new Walk();
    // Taken from the walk and not given to it: a constructor hands out nothing of the object that it makes.
    private final River now = walk.river;
    private final River trial = new River();
    private final River pictured = new River();
    private final Telling telling = new Telling();
    private final int[] seen = new int[MOST_IN_ROW];
    private final int[] refusals = new int[1 - ROOM];
    private int inRow;
    private boolean isPictured;

    public FloeToFloe() {
    }

    public int letter(int c) {
        int fault = outOf(c, 0, MOST_CODE);
        if (fault == 0 && telling.size == MOST_LETTERS) {
            fault = ROOM;
        }
        return fault != 0 ? refuse(fault) : telling.put(c);
    }

    public int river() {
        trial.become(now);
        int answer = telling.tellTo(trial);
        if (answer > 0) {
            now.become(trial);
        }
        telling.size = 0;
        return answer;
    }

    public int floe(int floe, int what) {
        if (!now.has(floe)) {
            return refuse(NOBODY);
        }
        if (what < 0 || what > 4) {
            return refuse(OTHER);
        }
        return now.toldOf(floe, what);
    }

    public int is(int floe, int minute) {
        int fault = faultOfLook(floe, minute);
        return fault != 0 ? refuse(fault) : now.spotOf(floe, minute);
    }

    public int bears(int floe, int minute) {
        int fault = faultOfLook(floe, minute);
        return fault != 0 ? refuse(fault) : now.strengthOf(floe, minute);
    }

    public int pass(int n) {
        int fault = outOf(n, 1, MOST_MINUTE);
        if (fault == 0 && now.minute + n > MOST_MINUTE) {
            fault = ROOM;
        }
        if (fault != 0) {
            return refuse(fault);
        }
        now.minute += n;
        return now.minute;
    }

    public int next(int floe) {
        if (!now.has(floe)) {
            return refuse(NOBODY);
        }
        walk.begin(1, 0, 0);
        walk.look(now.minute);
        return walk.floesBeside(floe);
    }

    public int crowd(int minute) {
        int fault = outOf(minute, 0, MOST_LOOKED_AT);
        if (fault != 0) {
            return refuse(fault);
        }
        int many = 0;
        for (int f = 0; f < now.floes; f++) {
            if (now.isShared(f, minute)) {
                many++;
            }
        }
        return many;
    }

    public int soonest(int load, int cell) {
        int fault = faultOfWalker(load, cell);
        if (fault != 0) {
            return refuse(fault);
        }
        walk.begin(load, 0, 0);
        return walk.minutesOver(cell, now.minute);
    }

    public int leaps(int load, int cell) {
        int fault = faultOfWalker(load, cell);
        if (fault != 0) {
            return refuse(fault);
        }
        walk.begin(load, 0, 0);
        return walk.fewestLeaps(cell);
    }

    public int reach(int load, int cell, int n) {
        if (!isCell(cell)) {
            return refuse(NOBODY);
        }
        int fault = outOfEither(load, n, SPAN);
        if (fault != 0) {
            return refuse(fault);
        }
        walk.begin(load, 0, 0);
        int places = walk.placesBehind(southCell(cell), now.minute, n);
        int banksAndFloes = places & (ALL_FLOES | NORTH);
        return (places & SOUTH) != 0 ? banksAndFloes | REACHED_SOUTH : banksAndFloes;
    }

    public int await(int load, int cell) {
        int fault = faultOfWalker(load, cell);
        if (fault != 0) {
            return refuse(fault);
        }
        walk.begin(load, 0, 0);
        // A long wait may help where a short one does not, so every wait is tried, the longest first.
        for (int wait = SPAN; wait >= 0; wait--) {
            if (walk.minutesOver(cell, now.minute + wait) != NONE) {
                return wait;
            }
        }
        return NONE;
    }

    public int heaviest(int cell) {
        if (!isCell(cell)) {
            return refuse(NOBODY);
        }
        for (int load = MOST_LOAD; load > 0; load--) {
            if (comesOver(load, cell, 0, 0)) {
                return load;
            }
        }
        return 0;
    }

    public int needed(int load, int cell) {
        int fault = faultOfWalker(load, cell);
        if (fault != 0) {
            return refuse(fault);
        }
        int floes = 0;
        if (!comesOver(load, cell, 0, 0)) {
            return floes;
        }
        for (int f = 0; f < now.floes; f++) {
            if (!comesOver(load, cell, 1 << f, 0)) {
                floes |= 1 << f;
            }
        }
        return floes;
    }

    public int poles(int load, int cell) {
        int fault = faultOfWalker(load, cell);
        if (fault != 0) {
            return refuse(fault);
        }
        for (int many = 0; many <= now.floes; many++) {
            for (int set = 0; set < 1 << now.floes; set++) {
                if (Integer.bitCount(set) == many && comesOver(load, cell, 0, set)) {
                    return set;
                }
            }
        }
        return NONE;
    }

    public int from(int load) {
        int fault = outOf(load, 1, MOST_LOAD);
        if (fault != 0) {
            return refuse(fault);
        }
        int cells = 0;
        for (int cell = 0; cell < CELLS; cell++) {
            if (comesOver(load, cell, 0, 0)) {
                cells |= 1 << cell;
            }
        }
        return cells;
    }

    public int byNow(int load, int floe, int n) {
        if (!now.has(floe)) {
            return refuse(NOBODY);
        }
        int fault = outOfEither(load, n, now.minute);
        if (fault != 0) {
            return refuse(fault);
        }
        walk.begin(load, 0, 0);
        return walk.placesBehind(1 << floe, now.minute - n, n) & ALL_FLOES;
    }

    public int row(int v) {
        int fault = outOf(v, 0, LEAPS_SOUTH);
        if (fault == 0 && inRow >= seen.length) {
            fault = ROOM;
        }
        if (fault != 0) {
            return refuse(fault);
        }
        seen[inRow] = v;
        inRow++;
        return inRow;
    }

    public int fitting(int what) {
        if (what < 0 || what > 1) {
            return refuse(OTHER);
        }
        int many = 0;
        int first = NONE;
        for (int kind = 0; kind <= 2; kind++) {
            for (int pace = -MOST_PACE; pace <= MOST_PACE; pace++) {
                if (fitsRow(kind, pace)) {
                    first = many == 0 ? 10 * kind + pace + MOST_PACE : first;
                    many++;
                }
            }
        }
        return what == 0 ? many : first;
    }

    public int judge(int load, int cell) {
        int fault = faultOfWalker(load, cell);
        if (fault != 0) {
            return refuse(fault);
        }
        walk.begin(load, 0, 0);
        walk.follow(seen, inRow, southCell(cell));
        return walk.done < inRow ? walk.done : NONE;
    }

    public int ends(int load, int cell) {
        int fault = faultOfWalker(load, cell);
        if (fault != 0) {
            return refuse(fault);
        }
        walk.begin(load, 0, 0);
        return placeOf(walk.follow(seen, inRow, southCell(cell)));
    }

    public int clear() {
        int had = inRow;
        inRow = 0;
        return had;
    }

    public int seeds(int n, int z) {
        int fault = outOf(n, 1, MOST_SEEDS);
        if (fault != 0) {
            return refuse(fault);
        }
        int many = 0;
        int seed = z;
        for (int i = 0; i < n; i++) {
            seed = seedBehind(seed);
            int cell = drawOf(seed) % CELLS;
            seed = seedBehind(seed);
            int load = drawOf(seed) % MOST_LOAD + 1;
            if (comesOver(load, cell, 0, 0)) {
                many++;
            }
        }
        return many;
    }

    public int image() {
        pictured.become(now);
        isPictured = true;
        return now.minute;
    }

    public int on() {
        if (!isPictured) {
            return refuse(STATE);
        }
        now.become(pictured);
        return now.minute;
    }

    public int count(int what) {
        int number = what - 10;
        if (number >= 1 && number < refusals.length) {
            return refusals[number];
        }
        switch (what) {
            case 0:
                return now.lanes;
            case 1:
                return now.floes;
            case 2:
                return now.minute;
            case 3:
                return inRow;
            case 4:
                return telling.size;
            case 5:
                return now.allStrength();
            default:
                return NONE;
        }
    }

    private int refuse(int refusal) {
        int number = -refusal;
        if (number >= 0 && number < refusals.length) {
            refusals[number]++;
        }
        return refusal;
    }

    /** The refusal that a number out of a range asks for, or 0. */
    private static int outOf(int number, int least, int most) {
        if (number < least) {
            return BELOW;
        }
        return number > most ? ROOM : 0;
    }

    /** The refusal of a load and a number of minutes: what is below goes ahead of what is above. */
    private static int outOfEither(int load, int minutes, int mostMinutes) {
        if (load < 1 || minutes < 0) {
            return BELOW;
        }
        return load > MOST_LOAD || minutes > mostMinutes ? ROOM : 0;
    }

    private static int faultOfWalker(int load, int cell) {
        return isCell(cell) ? outOf(load, 1, MOST_LOAD) : NOBODY;
    }

    private int faultOfLook(int floe, int minute) {
        return now.has(floe) ? outOf(minute, 0, MOST_LOOKED_AT) : NOBODY;
    }

    private static boolean isCell(int cell) {
        return cell >= 0 && cell < CELLS;
    }

    private static int southCell(int cell) {
        return 1 << (SOUTH_PLACE + cell);
    }

    private boolean comesOver(int load, int cell, int gone, int held) {
        walk.begin(load, gone, held);
        return walk.minutesOver(cell, now.minute) != NONE;
    }

    /** Whether a kind of those that fitting tries (f, t, h) would have been seen as the row tells. */
    private boolean fitsRow(int tried, int pace) {
        int kind = tried == 0 ? 0 : tried == 1 ? TURNING : HELD;
        for (int i = 0; i < inRow && i < seen.length; i++) {
            if (seen[i] != River.spotAt(kind, seen[0], pace, i)) {
                return false;
            }
        }
        return inRow > 0 && isCell(seen[0]);
    }

    private static int placeOf(int place) {
        for (int number = 0; number < SOUTH_PLACE + CELLS; number++) {
            if ((place >> number & 1) == 1) {
                return number;
            }
        }
        return NONE;
    }

    private static int seedBehind(int z) {
        return z * 1664525 + 1013904223;
    }

    private static int drawOf(int z) {
        return (z & 0x7FFFFFFF) / 256;
    }

    /** Lanes, floes and the minute: all that an image keeps. */
    private static final class River {
        private final int[] kinds = new int[MOST_FLOES];
        private final int[] homes = new int[MOST_FLOES];
        private final int[] cells = new int[MOST_FLOES];
        private final int[] paces = new int[MOST_FLOES];
        private final int[] strengths = new int[MOST_FLOES];
        private int lanes = FIRST_LANES;
        private int floes;
        private int minute;

        boolean has(int floe) {
            return floe >= 0 && floe < floes && floe < MOST_FLOES;
        }

        void become(River other) {
            for (int f = 0; f < MOST_FLOES; f++) {
                kinds[f] = other.kinds[f];
                homes[f] = other.homes[f];
                cells[f] = other.cells[f];
                paces[f] = other.paces[f];
                strengths[f] = other.strengths[f];
            }
            lanes = other.lanes;
            floes = other.floes;
            minute = other.minute;
        }

        /** Tells how many lanes there are: false if that can not be. */
        boolean widen(int told) {
            if (told < 1 || told > MOST_LANES) {
                return false;
            }
            for (int f = 0; f < floes; f++) {
                if (laneOf(f) >= told) {
                    return false;
                }
            }
            lanes = told;
            return true;
        }

        /** Tells a floe more: false if that can not be. */
        boolean add(int kind, int lane, int cell, int pace, int strength) {
            if (floes < 0 || floes >= MOST_FLOES || lane < 0 || lane >= lanes || !isCell(cell)) {
                return false;
            }
            if (Math.abs(pace) > MOST_PACE || strength < 1 || strength > MOST_LOAD) {
                return false;
            }
            kinds[floes] = kind;
            homes[floes] = lane;
            cells[floes] = cell;
            paces[floes] = pace;
            strengths[floes] = strength;
            floes++;
            return true;
        }

        /** Tells the minute: false if that can not be. */
        boolean turnTo(int told) {
            if (told < 0 || told > MOST_MINUTE) {
                return false;
            }
            minute = told;
            return true;
        }

        int toldOf(int floe, int what) {
            if (!has(floe)) {
                return NONE;
            }
            switch (what) {
                case 0:
                    return kinds[floe];
                case 1:
                    return homes[floe];
                case 2:
                    return cells[floe];
                case 3:
                    return paces[floe] + MOST_PACE;
                default:
                    return strengths[floe];
            }
        }

        int laneOf(int floe) {
            return has(floe) ? homes[floe] : NONE;
        }

        int spotOf(int floe, int at) {
            return has(floe) ? spotAt(kinds[floe], cells[floe], paces[floe], at) : NONE;
        }

        static int spotAt(int kind, int cell, int pace, int at) {
            if (kind == HELD) {
                return cell;
            }
            int drifted = at;
            if (kind == TURNING) {
                int turned = Math.floorMod(at, 6);
                drifted = turned <= 3 ? turned : 6 - turned;
            }
            return Math.floorMod(cell + pace * drifted, CELLS);
        }

        int strengthOf(int floe, int at) {
            if (!has(floe)) {
                return 0;
            }
            int strength = strengths[floe];
            switch (kinds[floe]) {
                case MELTING:
                    return Math.max(0, strength - at / 4);
                case GRINDING:
                    return Math.max(0, strength - at / 4 - at % 2);
                case SWELLING:
                    return strength + at / 6;
                default:
                    return strength;
            }
        }

        int allStrength() {
            int all = 0;
            for (int f = 0; f < floes; f++) {
                all += strengthOf(f, minute);
            }
            return all;
        }

        boolean isShared(int floe, int at) {
            for (int f = 0; f < floes; f++) {
                if (f != floe && laneOf(f) == laneOf(floe) && spotOf(f, at) == spotOf(floe, at)) {
                    return true;
                }
            }
            return false;
        }
    }

    /** The letters that were told, and how they become statements. */
    private static final class Telling {
        private static final int FIRST_KIND = -1000;
        private static final int SECOND_KIND = -2000;
        private static final int NO_LETTER = -1;
        // Their order is the number of the kind that floe answers.
        private static final String KIND_LETTERS = "fmgths";

        private final char[] letters = new char[MOST_LETTERS];
        private int size;

        int put(int c) {
            if (size >= 0 && size < letters.length) {
                letters[size] = (char) c;
                size++;
            }
            return size;
        }

        /** Tells all statements to a river, up to the first that is not as it must be: how many, or the fault. */
        int tellTo(River river) {
            int wrong = faultOfForm();
            if (wrong >= 0) {
                return FIRST_KIND - wrong;
            }
            int place = 0;
            int many = 0;
            while (many < MOST_LETTERS && place < size) {
                if (!tellOne(river, place)) {
                    return SECOND_KIND - place;
                }
                place += formAt(place).length();
                many++;
            }
            return many;
        }

        /** The place of the first letter with which no river can go on; -1 if there is none. */
        private int faultOfForm() {
            int place = 0;
            // The first round comes even without a letter: at least one statement has to be there.
            for (int i = 0; i < MOST_LETTERS && (i == 0 || place < size); i++) {
                String form = formAt(place);
                for (int k = 0; k < form.length(); k++) {
                    if (!isOf(form.charAt(k), letterAt(place + k))) {
                        return place + k;
                    }
                }
                place += form.length();
            }
            return NO_LETTER;
        }

        private boolean tellOne(River river, int place) {
            switch (letterAt(place)) {
                case 'r':
                    return river.widen(digitAt(place + 1));
                case 'm':
                    return river.turnTo(minuteAt(place + 1));
                default:
                    int pace = digitAt(place + 5);
                    return river.add(kindOf(letterAt(place + 1)), digitAt(place + 2), digitAt(place + 3),
                            letterAt(place + 4) == 'l' ? -pace : pace, digitAt(place + 6));
            }
        }

        /** The form of the statement that begins at a place, one sign for each of its letters. */
        private String formAt(int place) {
            switch (letterAt(place)) {
                case 'r':
                    return "rd;";
                case 'f':
                    return "fkddsdd;";
                case 'm':
                    return isOf('d', letterAt(place + 2)) ? "mdd;" : "md;";
                default:
                    // No letter is a '?': the fault is at this place.
                    return "?";
            }
        }

        /** Whether a letter is what a sign of a form asks for: d a digit, k a kind, s a side, else itself. */
        private static boolean isOf(char sign, int letter) {
            switch (sign) {
                case 'd':
                    return letter >= '0' && letter <= '9';
                case 'k':
                    return kindOf(letter) >= 0;
                case 's':
                    return letter == 'l' || letter == 'r';
                case '?':
                    return false;
                default:
                    return letter == sign;
            }
        }

        private static int kindOf(int letter) {
            for (int kind = 0; kind < KIND_LETTERS.length(); kind++) {
                if (KIND_LETTERS.charAt(kind) == letter) {
                    return kind;
                }
            }
            return NO_LETTER;
        }

        private int letterAt(int place) {
            return place >= 0 && place < size && place < letters.length ? letters[place] : NO_LETTER;
        }

        private int digitAt(int place) {
            return letterAt(place) - '0';
        }

        private int minuteAt(int place) {
            int first = digitAt(place);
            return isOf('d', letterAt(place + 1)) ? 10 * first + digitAt(place + 1) : first;
        }
    }

    /** Somebody of a load on a river: from a set of places in a minute to those a minute later. */
    private static final class Walk {
        private final River river = new River();
        private final int[] lanes = new int[MOST_FLOES];
        private final int[] spots = new int[MOST_FLOES];
        private final int[] byLeaps = new int[SPAN + 1];
        private int load;
        private int gone;
        private int held;
        private int strong;
        private int done;

        /** Somebody of a load begins, without some floes and with some held where they are now. */
        void begin(int newLoad, int goneFloes, int heldFloes) {
            load = newLoad;
            gone = goneFloes;
            held = heldFloes;
        }

        /** Finds where the floes are in a minute and which of them bear the load then and a minute later. */
        void look(int minute) {
            strong = 0;
            for (int f = 0; f < MOST_FLOES; f++) {
                boolean isHeld = (held >> f & 1) == 1;
                lanes[f] = river.laneOf(f);
                spots[f] = river.spotOf(f, isHeld ? river.minute : minute);
                boolean isThere = river.has(f) && (gone >> f & 1) == 0;
                if (isThere && river.strengthOf(f, minute) >= load && river.strengthOf(f, minute + 1) >= load) {
                    strong |= 1 << f;
                }
            }
        }

        int minutesOver(int cell, int start) {
            int places = southCell(cell);
            for (int t = 0; t < SPAN; t++) {
                look(start + t);
                places = placesUnleaped(places) | placesLeaped(places);
                if ((places & NORTH) != 0) {
                    return t + 1;
                }
            }
            return NONE;
        }

        int placesBehind(int start, int minute, int minutes) {
            int places = start;
            for (int t = 0; t < minutes; t++) {
                look(minute + t);
                places = placesUnleaped(places) | placesLeaped(places);
            }
            return places;
        }

        /** The least number of leaps: a set of places for each number, all moved on minute by minute. */
        int fewestLeaps(int cell) {
            for (int k = 1; k <= SPAN; k++) {
                byLeaps[k] = 0;
            }
            byLeaps[0] = southCell(cell);
            for (int t = 0; t < SPAN; t++) {
                look(river.minute + t);
                // From above, as each number asks what the one below it was before this minute.
                for (int k = t + 1; k > 0; k--) {
                    byLeaps[k] = placesUnleaped(byLeaps[k]) | placesLeaped(byLeaps[k - 1]);
                }
                byLeaps[0] = placesUnleaped(byLeaps[0]);
            }
            for (int k = 0; k <= SPAN; k++) {
                if ((byLeaps[k] & NORTH) != 0) {
                    return k;
                }
            }
            return NONE;
        }

        /** Does the acts of a row from now on up to the first that may not be: the place then. */
        int follow(int[] acts, int many, int start) {
            int place = start;
            done = 0;
            while (done < many && done < acts.length) {
                look(river.minute + done);
                int later = placeBehindAct(place, acts[done]);
                if (later == 0) {
                    return place;
                }
                place = later;
                done++;
            }
            return place;
        }

        /** The place where an act leads in the minute looked at; 0 if he may not. */
        private int placeBehindAct(int place, int act) {
            // Nothing may be done behind the north bank, not even to stay.
            if (place == NORTH) {
                return 0;
            }
            switch (act) {
                case STAYS:
                    return placesStayed(place);
                case WALKS_LESS:
                    return walkedLess(place);
                case WALKS_GREATER:
                    return walkedGreater(place);
                case LEAPS_SOUTH:
                    return placesLeaped(place) & SOUTH;
                default:
                    return act >= 0 && act <= NORTH_PLACE ? placesLeaped(place) & 1 << act : 0;
            }
        }

        private int placesUnleaped(int places) {
            return placesStayed(places) | walkedLess(places) | walkedGreater(places);
        }

        private int placesStayed(int places) {
            return places & (SOUTH | NORTH | strong);
        }

        private static int walkedLess(int places) {
            int cells = places >> SOUTH_PLACE & ALL_CELLS;
            return (cells >> 1 | (cells & 1) << (CELLS - 1)) << SOUTH_PLACE;
        }

        private static int walkedGreater(int places) {
            int cells = places >> SOUTH_PLACE & ALL_CELLS;
            return (cells << 1 & ALL_CELLS | cells >> (CELLS - 1)) << SOUTH_PLACE;
        }

        private int placesLeaped(int places) {
            int leaped = 0;
            int cells = places >> SOUTH_PLACE & ALL_CELLS;
            for (int f = 0; f < MOST_FLOES; f++) {
                if (lanes[f] == 0 && (cellsNear(spots[f]) & cells) != 0) {
                    leaped |= 1 << f & strong;
                }
                if ((places >> f & 1) == 1) {
                    leaped |= floesBeside(f) & strong | bankBeside(f);
                }
            }
            return leaped;
        }

        /** The floes in a lane beside a floe's and at its cell or beside it, in the minute looked at. */
        int floesBeside(int floe) {
            int beside = 0;
            if (!river.has(floe)) {
                return beside;
            }
            int cells = cellsNear(spots[floe]);
            for (int f = 0; f < MOST_FLOES; f++) {
                if (river.has(f) && Math.abs(lanes[f] - lanes[floe]) == 1 && (cells >> spots[f] & 1) == 1) {
                    beside |= 1 << f;
                }
            }
            return beside;
        }

        private int bankBeside(int floe) {
            if (!river.has(floe)) {
                return 0;
            }
            int south = lanes[floe] == 0 ? southCell(spots[floe]) : 0;
            return lanes[floe] == river.lanes - 1 ? south | NORTH : south;
        }

        private static int cellsNear(int cell) {
            return 1 << cell | 1 << (cell + 1) % CELLS | 1 << (cell + CELLS - 1) % CELLS;
        }
    }
}
