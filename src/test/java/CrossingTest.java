/** Promises 10 to 18: soonest, leaps, reach, await, heaviest, needed, poles, from, byNow. */
public final class CrossingTest {
    private static final String ONE_HELD = "r1;fh00r09;";
    private static final String ONE_MELTING = "r1;fm00r05;";
    private static final String ONE_GRINDING = "r1;fg00r03;";
    private static final String ONE_SWELLING = "r1;fs00r01;";

    public static void main(String[] args) {
        soonest();
        fortyMinutes();
        leaps();
        reach();
        await();
        heaviest();
        needed();
        poles();
        from();
        byNow();
        driftingOn();
        afterAnotherRiver();
        refusals();
        Due.end();
    }

    private static void soonest() {
        FloeToFloe x = Due.river(ONE_HELD);
        int[] want = {2, 2, 3, 4, 5, 6, 5, 4, 3, 2};
        for (int cell = 0; cell < 10; cell++) {
            Due.is("one held floe: soonest(9, " + cell + ")", x.soonest(9, cell), want[cell]);
        }
        x = Due.river(ONE_GRINDING);
        Due.is("it has to bear in both minutes", x.soonest(3, 0), -9);
        Due.is("it bears 2 in both", x.soonest(2, 0), 2);
        x = Due.river(ONE_MELTING);
        Due.is("on in minute 2, it bears in 2 and 3", x.soonest(5, 2), 3);
        Due.is("on in minute 2 from cell 3", x.soonest(5, 3), 4);
        Due.is("in minute 3 it is too late", x.soonest(5, 4), -9);
        x = Due.river("r2;fh00r09;fh12r09;");
        Due.is("two cells apart", x.soonest(1, 0), -9);
        x = Due.river("r2;fh00r09;fh11r09;");
        Due.is("beside", x.soonest(1, 0), 3);
        x = Due.river("r3;fh00r09;fh20r09;");
        Due.is("not over a lane", x.soonest(1, 0), -9);
        x = Due.river("r2;fh10r09;");
        Due.is("not from the bank to lane 1", x.soonest(1, 0), -9);
        x = Due.river("r2;fh00r09;ff12r19;");
        Due.is("waits on a floe for the next: 2, 3, .. 9", x.soonest(9, 0), 9);
        Due.is("of an empty river", new FloeToFloe().soonest(1, 0), -9);
        x = Due.river("r2;fh05r09;ff15l13;");
        Due.is("from now on: minute 0", x.soonest(3, 5), 3);
        x.pass(2);
        Due.is("from now on: minute 2, beside again in minute 9", x.soonest(3, 5), 9);
    }

    private static void fortyMinutes() {
        FloeToFloe x = Due.river(ONE_SWELLING + "m9;");
        Due.is("it bears 9 from minute 48 on: 41 minutes from 9", x.soonest(9, 0), -9);
        Due.is("leaps", x.leaps(9, 0), -9);
        Due.is("reach(9, 0, 40)", x.reach(9, 0, 40), 513);
        Due.is("heaviest", x.heaviest(0), 8);
        Due.is("needed", x.needed(9, 0), 0);
        Due.is("from", x.from(9), 0);
        Due.is("poles", x.poles(9, 0), -9);
        x.pass(1);
        Due.is("40 minutes from 10", x.soonest(9, 0), 40);
        Due.is("leaps then", x.leaps(9, 0), 2);
        Due.is("reach(9, 0, 40) then", x.reach(9, 0, 40), 769);
        Due.is("reach(9, 0, 39) then", x.reach(9, 0, 39), 513);
        Due.is("heaviest then", x.heaviest(0), 9);
        Due.is("needed then", x.needed(9, 0), 1);
        Due.is("from then", x.from(9), 1023);
        Due.is("poles then", x.poles(9, 0), 0);
    }

    private static void leaps() {
        FloeToFloe x = Due.river(ONE_HELD);
        for (int cell = 0; cell < 10; cell++) {
            Due.is("walking is no leap: leaps(9, " + cell + ")", x.leaps(9, cell), 2);
        }
        x = Due.river("r5;fh00r09;fh10r09;fh20r09;fh30r09;fh40r09;");
        Due.is("five lanes", x.leaps(9, 0), 6);
        Due.is("five lanes, soonest", x.soonest(9, 5), 10);
        String zigzag = "r4;fh00r09;fh11r09;fh22r09;fh13r09;fh24r09;fh35r09;";
        x = Due.river(zigzag);
        Due.is("to and fro between lanes 1 and 2", x.leaps(1, 0), 7);
        Due.is("to and fro, from cell 5", x.leaps(1, 5), 7);
        Due.is("to and fro, from cell 5, soonest", x.soonest(1, 5), 11);
        // Floe 6 comes by floe 1 in minute 8 and by floe 5 in minute 12.
        x = Due.river(zigzag + "ff22r19;");
        Due.is("drifting has fewer leaps", x.leaps(1, 0), 5);
        Due.is("but leaping to and fro is sooner", x.soonest(1, 0), 7);
        Due.is("drifting, there behind 14 minutes", x.reach(1, 0, 14) & 256, 256);
        Due.is("of an empty river", new FloeToFloe().leaps(1, 0), -9);
        x = Due.river(ONE_MELTING);
        Due.is("over in time", x.leaps(5, 3), 2);
        Due.is("too late", x.leaps(5, 4), -9);
        Due.is("each minute a leap", Due.river("r3;fm00r01;fm10r01;fm20r01;").leaps(1, 0), 4);
        Due.is("one lane more: too late", Due.river("r4;fm00r01;fm10r01;fm20r01;fm30r01;").leaps(1, 0), -9);
    }

    private static void reach() {
        FloeToFloe x = Due.river(ONE_HELD);
        Due.is("reach(1, 0, 0)", x.reach(1, 0, 0), 512);
        Due.is("reach(1, 0, 1)", x.reach(1, 0, 1), 512 + 1);
        Due.is("reach(1, 0, 2)", x.reach(1, 0, 2), 512 + 256 + 1);
        Due.is("reach(1, 5, 4)", x.reach(1, 5, 4), 512);
        Due.is("reach(1, 5, 5)", x.reach(1, 5, 5), 512 + 1);
        Due.is("reach(1, 5, 40)", x.reach(1, 5, 40), 512 + 256 + 1);
        x = Due.river("r1;fm00r01;");
        Due.is("on it", x.reach(1, 0, 1), 512 + 1);
        Due.is("minute 3 is the last that it bears", x.reach(1, 0, 3), 512 + 256 + 1);
        Due.is("in minute 4 nobody is on it, the north bank is not left", x.reach(1, 0, 4), 512 + 256);
        Due.is("north bank in minute 40", x.reach(1, 0, 40), 512 + 256);
        x.pass(3);
        Due.is("from minute 3 on", x.reach(1, 0, 1), 512);
        x = Due.river("r2;fh00r09;fh11r05;fh12r09;");
        Due.is("lane 1 beside, not too weak, not two off: behind 2", x.reach(5, 9, 2), 512 + 1 + 2);
        Due.is("too heavy for it", x.reach(6, 9, 3), 512 + 1);
        // Floe 0 is at cells 0, 2, 4 and at floe 1 in minute 2.
        x = Due.river("ff00r29;fh15r09;");
        Due.is("behind 3", x.reach(1, 0, 3), 512 + 1 + 2);
        Due.is("behind 2", x.reach(1, 0, 2), 512 + 1);
    }

    private static void await() {
        FloeToFloe x = Due.river(ONE_MELTING);
        Due.is("load 3: on in minute 10 at last", x.await(3, 0), 10);
        Due.is("load 3, four cells to walk", x.await(3, 5), 6);
        Due.is("load 5", x.await(5, 0), 2);
        Due.is("load 5, too far", x.await(5, 5), -9);
        Due.is("load 5, just in time", x.await(5, 3), 0);
        x.pass(10);
        Due.is("load 3 in minute 10", x.await(3, 0), 0);
        x.pass(1);
        Due.is("load 3 in minute 11", x.await(3, 0), -9);
        x = Due.river(ONE_GRINDING);
        Due.is("grinding", x.await(2, 0), 3);
        x = Due.river(ONE_HELD);
        Due.is("for ever", x.await(9, 5), 40);
        x = Due.river(ONE_SWELLING);
        Due.is("not within 40 minutes from now", x.soonest(9, 0), -9);
        Due.is("but within 40 from then on", x.await(9, 0), 40);
        x = Due.river("r2;fm00r09;fs10r01;");
        Due.is("melting to 3, swelling to 3: on the first in minute 26 at last", x.await(3, 0), 26);
        Due.is("of an empty river", new FloeToFloe().await(1, 0), -9);
        x = Due.river("r1;fm00r09;m60;");
        Due.is("in minute 60 it is molten", x.await(1, 0), -9);
        x = Due.river("r1;fs00r03;m60;");
        Due.is("in minute 60 it bears 13", x.await(9, 0), 40);
    }

    private static void heaviest() {
        FloeToFloe x = Due.river(ONE_MELTING);
        Due.is("beside", x.heaviest(0), 5);
        Due.is("in time", x.heaviest(3), 5);
        Due.is("four cells off", x.heaviest(5), 4);
        Due.is("grinding", Due.river(ONE_GRINDING).heaviest(0), 2);
        Due.is("held", Due.river(ONE_HELD).heaviest(5), 9);
        Due.is("the weaker of two", Due.river("r2;fh00r06;fh10r04;").heaviest(5), 4);
        Due.is("1 is the least load", Due.river("r1;fh00r01;").heaviest(0), 1);
        Due.is("nobody", new FloeToFloe().heaviest(0), 0);
        x = Due.river("r1;fs00r09;");
        Due.is("9 is the greatest load", x.heaviest(0), 9);
        Due.is("no cell -1", x.heaviest(-1), -1);
        Due.is("no cell 10", x.heaviest(10), -1);
        Due.is("refusals", x.count(11), 2);
    }

    private static void needed() {
        FloeToFloe x = Due.river("r2;fh00r09;fh01r09;fh10r05;");
        Due.is("either of lane 0, the one of lane 1", x.needed(5, 0), 4);
        Due.is("not with all", x.needed(6, 0), 0);
        x = Due.river("r2;fh00r09;fh01r04;fh10r09;");
        Due.is("the other one is too weak", x.needed(5, 0), 1 + 4);
        Due.is("or not", x.needed(4, 0), 4);
        x = Due.river("r1;fm00r05;fh05r05;");
        Due.is("from cell 0 in time either way", x.needed(5, 0), 0);
        Due.is("load 5 in minute 4", Due.river("r1;fm00r05;fh05r05;m4;").needed(5, 0), 2);
        Due.is("of an empty river", new FloeToFloe().needed(1, 0), 0);
        Due.is("eight", Due.river("r2;fh00r09;fh00r09;fh00r09;fh00r09;fh00r09;fh00r09;fh00r09;fh10r09;").needed(9, 0), 128);
    }

    private static void poles() {
        FloeToFloe x = Due.river("r2;ff00r19;ff15r19;");
        Due.is("always five apart", x.soonest(9, 0), -9);
        Due.is("either one held lets over: least bits", x.poles(9, 0), 1);
        Due.is("nothing is held behind it", x.soonest(9, 0), -9);
        x = Due.river("r2;ft00r19;ft14r19;");
        Due.is("minute 0: floe 1 has to be held", x.poles(9, 0), 2);
        x.pass(1);
        Due.is("minute 1: none helps", x.poles(9, 0), -9);
        x.pass(2);
        Due.is("minute 3: floe 0 has to be held", x.poles(9, 0), 1);
        x.pass(3);
        Due.is("minute 6 is as minute 0", x.poles(9, 0), 2);
        Due.is("without any", Due.river("r2;fh00r09;fh10r09;").poles(9, 0), 0);
        Due.is("of an empty river", new FloeToFloe().poles(1, 0), -9);
        x = Due.river("r2;fm00r09;ff15r19;");
        Due.is("they bear as their kinds tell: load 9 comes too late", x.poles(9, 0), -9);
        x = Due.river("r2;ft00r19;fm14r19;m06;");
        Due.is("a melting one, held, melts", x.poles(9, 0), -9);
        Due.is("the middle one alone", Due.river("r3;ff00r19;ff15r19;ff20r19;").poles(9, 0), 2);
        Due.is("floes 0 and 2, or 1 and 3", Due.river("r4;ff00r19;ff15r19;ff20r19;ff35r19;").poles(9, 0), 1 + 4);
    }

    private static void from() {
        FloeToFloe x = Due.river(ONE_MELTING);
        Due.is("load 5: cells 7 .. 3", x.from(5), 128 + 256 + 512 + 1 + 2 + 4 + 8);
        Due.is("load 4: all", x.from(4), 1023);
        Due.is("load 6", x.from(6), 0);
        x.pass(2);
        Due.is("load 5 in minute 2: beside it", x.from(5), 512 + 1 + 2);
        Due.is("from(0)", x.from(0), -4);
        Due.is("from(10)", x.from(10), -6);
        Due.is("from(1)", x.from(1), 1023);
        Due.is("from(9) of nothing", new FloeToFloe().from(9), 0);
    }

    private static void byNow() {
        FloeToFloe x = Due.river("r2;fh00r09;fh10r05;m05;");
        Due.is("byNow(9, 0, 0)", x.byNow(9, 0, 0), 1);
        Due.is("byNow(9, 1, 0)", x.byNow(9, 1, 0), 2);
        Due.is("too heavy for the other", x.byNow(9, 0, 1), 1);
        Due.is("both", x.byNow(5, 0, 1), 3);
        Due.is("back", x.byNow(5, 1, 1), 3);
        Due.is("it does not bear him, but he was there", x.byNow(9, 1, 1), 1);
        Due.is("all five minutes", x.byNow(9, 1, 5), 1);
        x = Due.river("r2;fh00r01;fh10r01;m05;");
        Due.is("nowhere to be", x.byNow(9, 1, 1), 0);
        // In minutes 3, 4, 5 the molten one bears 1, 0, 0.
        x = Due.river("r1;fm00r01;m04;");
        Due.is("minutes 2 to 4", x.byNow(1, 0, 2), 0);
        Due.is("no minutes", x.byNow(1, 0, 0), 1);
        // By the south bank: ashore in minute 0, from cell 0 to cell 3 in minutes 1 to 3, onto floe 1 in minute 4.
        x = Due.river("fh00r09;fh04r09;m05;");
        Due.is("over the south bank", x.byNow(1, 0, 5), 3);
        Due.is("not so soon", x.byNow(1, 0, 4), 1);
        Due.is("byNow(0, 2, 9)", x.byNow(0, 2, 9), -1);
        Due.is("byNow(1, -1, 0)", x.byNow(1, -1, 0), -1);
        Due.is("byNow(0, 0, 6)", x.byNow(0, 0, 6), -4);
        Due.is("byNow(10, 0, -1)", x.byNow(10, 0, -1), -4);
        Due.is("byNow(10, 0, 4)", x.byNow(10, 0, 4), -6);
        Due.is("byNow(9, 0, 6)", x.byNow(9, 0, 6), -6);
        Due.is("refusals -1", x.count(11), 2);
        Due.is("refusals -4", x.count(14), 2);
        Due.is("refusals -6", x.count(16), 2);
        x = Due.river("r2;ff00r19;ff15r19;fh03r09;m60;");
        Due.is("sixty minutes", x.byNow(9, 1, 60), 7);
        Due.is("three minutes", x.byNow(9, 1, 3), 2 + 4);
    }

    /** Floes 0 and 1 stay five cells apart, unless one of them is held; nobody holds one but in poles. */
    private static void driftingOn() {
        String apart = "r2;ff00r19;ff15r19;";
        FloeToFloe x = Due.river(apart);
        Due.is("apart: poles", x.poles(9, 0), 1);
        Due.is("apart: soonest", x.soonest(9, 0), -9);
        Due.is("apart: leaps", x.leaps(9, 0), -9);
        Due.is("apart: reach", x.reach(9, 0, 40), 512 + 1);
        Due.is("apart: await", x.await(9, 0), -9);
        Due.is("apart: heaviest", x.heaviest(0), 0);
        Due.is("apart: needed", x.needed(9, 0), 0);
        Due.is("apart: from", x.from(9), 0);
        Due.is("apart: seeds", x.seeds(20, 1), 0);
        x.pass(20);
        Due.is("apart: byNow", x.byNow(9, 0, 20), 1);
        Due.is("apart: needed, with a floe that helps", Due.river(apart + "fh10r09;").needed(9, 0), 1 + 4);
        // Floe 0 bears load 9 up to minute 3 and is beside floe 1 in minute 0 alone; it bears load 8 when it is back in 5.
        String once = "r2;fm00r29;fh10r09;";
        Due.is("once: poles", Due.river(once).poles(9, 0), 1);
        Due.is("once: soonest", Due.river(once).soonest(9, 0), -9);
        Due.is("once: heaviest", Due.river(once).heaviest(0), 8);
        Due.is("once: needed", Due.river(once).needed(9, 0), 0);
        Due.is("once: from", Due.river(once).from(9), 0);
        Due.is("once: needed, with a floe that helps", Due.river(once + "fh00r09;").needed(9, 0), 2 + 4);
        Due.is("once: needed of load 8", Due.river(once).needed(8, 0), 1 + 2);
        int withNine = 0;
        for (int seed = 0; seed < 20; seed++) {
            // A first draw of load 9 does not come over, whatever the cell.
            int z = (seed * 1664525 + 1013904223) * 1664525 + 1013904223;
            if ((z & 0x7FFFFFFF) / 256 % 9 == 8) {
                Due.is("once: seeds(1, " + seed + ")", Due.river(once).seeds(1, seed), 0);
                withNine++;
            }
        }
        Due.isTrue("a seed that draws load 9", withNine > 0);
    }

    /** What a call has worked out for one river must not be left for another one. */
    private static void afterAnotherRiver() {
        FloeToFloe x = Due.river("r1;");
        x.image();
        Due.tell(x, "fh00r09;");
        Due.is("held: leaps", x.leaps(5, 0), 2);
        x.on();
        Due.tell(x, "fm03r15;");
        Due.is("it drifts off and melts: leaps", x.leaps(5, 0), -9);
        Due.is("it drifts off and melts: soonest", x.soonest(5, 0), -9);
        Due.is("all floes held, which is one", x.poles(5, 0), 1);
        Due.is("from cell 3", x.leaps(5, 3), 2);
    }

    private static void refusals() {
        FloeToFloe x = Due.river(ONE_HELD);
        for (int call = 0; call < 5; call++) {
            Due.is("no cell -1, call " + call, walker(x, call, 0, -1), -1);
            Due.is("no cell 10, call " + call, walker(x, call, 10, 10), -1);
            Due.is("load 0, call " + call, walker(x, call, 0, 0), -4);
            Due.is("load 10, call " + call, walker(x, call, 10, 9), -6);
            Due.is("load 1, call " + call, Math.min(0, walker(x, call, 1, 9)), 0);
            Due.is("load 9, call " + call, Math.min(0, walker(x, call, 9, 0)), 0);
        }
        Due.is("reach: the cell first", x.reach(0, 10, 41), -1);
        Due.is("reach: the cell first, -1", x.reach(10, -1, -1), -1);
        Due.is("reach: load 0 ahead of n 41", x.reach(0, 0, 41), -4);
        Due.is("reach: n -1 ahead of load 10", x.reach(10, 0, -1), -4);
        Due.is("reach: load 10", x.reach(10, 0, 0), -6);
        Due.is("reach: n 41", x.reach(1, 0, 41), -6);
        Due.is("refusals -1", x.count(11), 12);
        Due.is("refusals -4", x.count(14), 7);
        Due.is("refusals -6", x.count(16), 7);
    }

    private static int walker(FloeToFloe x, int call, int load, int cell) {
        switch (call) {
            case 0:
                return x.soonest(load, cell);
            case 1:
                return x.leaps(load, cell);
            case 2:
                return x.await(load, cell);
            case 3:
                return x.needed(load, cell);
            default:
                return x.poles(load, cell);
        }
    }
}
