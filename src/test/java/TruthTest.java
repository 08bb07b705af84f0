/** Promises 39 to 46: what passes in truth, the moves, the image, the status. */
public final class TruthTest {
    private static void promise39Evening() {
        Face x = Checks.built("box 1 33;device 33 1 7;device 0 1 5");
        // At 33 BOX 0 has 3, BOX 1 has 5.
        Checks.due("by the rule of 2", x.evening(1, 2), 12);
        Checks.due("it clings still", x.deviceOf(0, 3), 0);
        Checks.due("a minute went", x.status(6), 1);
        Checks.due("by the rule of 3", x.evening(59, 3), 12);
        Checks.due("it lets go", x.deviceOf(0, 3), 1);
        Checks.due("the other doesn't", x.deviceOf(1, 3), 0);
        Checks.due("an hour went", x.status(6), 0);
        Checks.due("60 minutes", x.evening(60, 4), 12);
        int[][] bad = {{0, 0}, {61, 0}, {-1, 0}, {1, -1}, {1, 5}};
        for (int[] b : bad) {
            Checks.due("evening " + b[0] + " " + b[1], x.evening(b[0], b[1]), -6);
        }
        Checks.due("no minute went", x.status(6), 0);
        Checks.due("counted", x.status(16), 5);
        // The oven runs in the minute that comes, not in this one; in it BOX 0 has 18 at 33, BOX 1 has 30.
        Face y = Checks.built("thing 4 1 33;minute 9;box 1 33;device 33 1 7");
        Checks.due("in the minute that comes", y.evening(1, 1), 7);
        Checks.due("it let go", y.deviceOf(0, 3), 1);
        Face z = Checks.built("thing 4 1 33;minute 0;box 1 33;device 33 3 7");
        Checks.due("the oven rests then", z.evening(1, 1), 7);
        Checks.due("it clings", z.deviceOf(0, 3), 0);
        Checks.due("filled when all have passed", z.evening(9, 1), 0);
        Checks.due("it let go then", z.deviceOf(0, 3), 1);
        Checks.due("and keeps clinging", z.evening(1, 1), 0);
        Checks.due("to what has more", z.deviceOf(0, 3), 1);
    }

    private static void promise40Weeks() {
        Face x = Watch.fresh();
        Checks.due("nothing there", x.weeks(1), 0);
        // 16838 modulo 4 is 2: a NEIGHBOUR, and there is none.
        Checks.due("one draw", x.status(9), 1103527590);
        Checks.due("a minute", x.status(6), 1);
        Face y = Checks.built("neighbour 1 0");
        y.weeks(1);
        // 16838 modulo 4 is 2, then below 1, then 10113 modulo 13 is 12.
        Checks.due("three draws", y.status(9), 662824084);
        Checks.due("it went", y.goesTo(0, 0), 13);
        drawn(0, 4);
        drawn(1, 2);
        drawn(2, 3);
        drawn(3, 1);
        Face z = Checks.built("side 8;device 00 1 10");
        z.seed(seedFor(3));
        Checks.due("filled behind each", z.weeks(1), 10);
        Face w = Watch.fresh();
        Checks.due("weeks 0", w.weeks(0), -6);
        Checks.due("weeks 61", w.weeks(61), -6);
        Checks.due("weeks below", w.weeks(Integer.MIN_VALUE), -6);
        Checks.due("no draw", w.status(9), 1);
        Checks.due("counted", w.status(16), 3);
        Checks.due("60", w.weeks(60), 0);
        Checks.due("an hour", w.status(6), 0);
        Face v = Checks.built("side 8;power 20;box 1 77;device 66 1 9;minute 59");
        v.seed(seedFor(3));
        // BOX 0 has none at 66, BOX 1 has 1: the rule of 1 lets it go, and half of 1 is none.
        Checks.due("by the rule of 1", v.weeks(1), 0);
        Checks.due("it let go", v.deviceOf(0, 3), 1);
        Checks.due("the hour is round", v.status(6), 0);
    }

    private static int after(int seed) {
        return seed * 1103515245 + 12345;
    }

    /** A SEED whose first DRAW below 4 is this. */
    private static int seedFor(int what) {
        int seed = 0;
        while ((after(seed) >>> 16) % 4 != what) {
            seed++;
        }
        return seed;
    }

    private static void drawn(int what, int draws) {
        Face x = Checks.built(
            "side 7;device 00 1 1;device 01 1 1;device 02 1 1;thing 0 1 0;thing 2 1 0;neighbour 1 0;neighbour 2 0");
        int seed = seedFor(what);
        x.seed(seed);
        x.weeks(1);
        int[] at = {0, 1, 2};
        int[] shut = {1, 1};
        int[] on = {1, 2};
        int one = after(after(seed));
        int two = after(one);
        int three = after(two);
        if (what == 0) {
            at[(one >>> 16) % 3] = 10 * ((two >>> 16) % 7) + (three >>> 16) % 7;
        }
        if (what == 1) {
            shut[(one >>> 16) % 2] = 0;
        }
        if (what == 2) {
            on[(one >>> 16) % 2] = 1 + (two >>> 16) % 13;
        }
        int due = seed;
        for (int i = 0; i < draws; i++) {
            due = after(due);
        }
        Checks.due("draws of " + what, x.status(9), due);
        for (int i = 0; i < 3; i++) {
            Checks.due("device " + i + " by " + what, x.deviceOf(i, 0), at[i]);
        }
        for (int i = 0; i < 2; i++) {
            Checks.due("thing " + i + " by " + what, x.thingOf(i, 3), shut[i]);
            Checks.due("neighbour " + i + " by " + what, x.goesTo(i, 0), on[i]);
        }
        if (what == 1) {
            x.seed(seed);
            x.weeks(1);
            Checks.due("shut again", x.thingOf((one >>> 16) % 2, 3), 1);
        }
        Face none = Watch.fresh();
        none.seed(seed);
        none.weeks(1);
        Checks.due("no draw more of " + what, none.status(9), after(seed));
    }

    private static void promise41Seed() {
        Face x = Watch.fresh();
        Checks.due("1 at first", x.seed(Integer.MIN_VALUE), 1);
        Checks.due("any", x.seed(-1), Integer.MIN_VALUE);
        Checks.due("any", x.seed(0), -1);
        Checks.due("it is", x.status(9), 0);
    }

    private static void acted(Face y, int thing, int move, int x0, int due, int... bodies) {
        Face x = Watch.twin(y);
        String call = "act " + thing + " " + move;
        Checks.due(call, x.act(thing, move, x0), due);
        Checks.due("bodies of " + call, x.status(10), bodies.length);
        for (int i = 0; i < 21; i++) {
            Checks.due("body " + i + " of " + call, x.trace(i), i < bodies.length ? bodies[i] : -1);
        }
    }

    private static void promise42ActAnd43Trace() {
        Face x = Checks.built("thing 0 3 0;thing 1 3 0;thing 2 3 0;thing 3 3 0;thing 4 3 0;thing 5 3 0",
            "thing 6 3 0");
        acted(x, 0, 0, 10, 10, 10);
        acted(x, 0, 1, 10, 20, 11, 10);
        acted(x, 0, 2, 10, 20 ^ 7, 12, 11, 10, 10);
        acted(x, 1, 0, 10, 14, 20, 10);
        acted(x, 1, 1, 10, 28, 11, 20, 10);
        acted(x, 1, 2, 10, 28 ^ 11, 12, 11, 20, 10, 20, 10);
        acted(x, 2, 0, 10, 12, 10);
        acted(x, 2, 1, 10, 72, 30, 11, 10);
        acted(x, 2, 2, 10, 72 ^ 9, 12, 30, 11, 10, 10);
        acted(x, 3, 0, 10, 16, 20, 10);
        acted(x, 3, 1, 10, 34, 40, 11, 20, 10);
        acted(x, 3, 2, 10, 34 ^ 13, 12, 40, 11, 20, 10, 20, 10);
        acted(x, 4, 0, 10, 10, 51, 10);
        acted(x, 4, 1, 10, 20, 11, 51, 10);
        acted(x, 4, 2, 10, -(20 ^ 7), 50, 12, 11, 51, 10, 51, 10);
        acted(x, 5, 0, 10, 15, 10);
        acted(x, 5, 1, 10, 90, 30, 11, 10);
        acted(x, 5, 2, 10, 90 ^ 12 ^ 5, 60, 12, 30, 11, 10, 10);
        acted(x, 6, 0, 10, 20, 70, 51, 10);
        acted(x, 6, 1, 10, 28, 71, 11, 70, 51, 10);
        acted(x, 6, 2, 10, -(28 ^ 14), 50, 12, 71, 11, 70, 51, 10, 70, 51, 10);
        acted(x, 3, 1, Integer.MAX_VALUE, (Integer.MIN_VALUE + 6) * 2, 40, 11, 20, 10);
        acted(x, 2, 1, Integer.MAX_VALUE, (Integer.MIN_VALUE + 1) * 2 * 3, 30, 11, 10);
        acted(x, 7, 0, 10, 0);
        x.act(0, 0, 10);
        acted(x, -1, 0, 10, 0);
        x.act(0, 0, 10);
        acted(x, 0, 3, 10, 0);
        x.act(0, 0, 10);
        acted(x, 0, -1, 10, 0);
        x.act(0, 0, 10);
        Checks.due("ahead of the first", x.trace(-1), -1);
        Checks.due("behind the last", x.trace(20), -1);
        for (int what = 11; what <= 17; what++) {
            Checks.due("nothing refused", x.status(what), 0);
        }
    }

    private static void promise44ImageAnd45Restore() {
        Face x = Checks.built("side 5;thing 2 4 44;neighbour 3 4;device 1 2 3;box 0 12;power 20");
        Checks.due("none yet", x.restore(), -6);
        x.ask(1, 8);
        x.ask(2, 7);
        x.seed(77);
        x.box(1, 33);
        x.show(0, 0);
        x.row(1, 2, 3);
        Checks.due("taken", x.image(), 1);
        Face as = Watch.twin(x);
        x.side(6);
        x.thing(1, 1, 55);
        x.show(2, 1);
        x.show(3, 0);
        x.set(1, 0, 5);
        x.shut(0, false);
        x.move(0, 0);
        x.neighbour(1, 1);
        x.device(55, 5, 99);
        x.box(0, 0);
        x.box(1, -1);
        x.ask(0, 60);
        x.ask(1, 1);
        x.weeks(60);
        x.evening(60, 4);
        x.act(0, 0, 1);
        x.side(1);
        x.row(0, 9, 0);
        Checks.text(x, 4, "side 9");
        x.house(4);
        x.show(4, -1);
        Checks.due("restored", x.restore(), 1);
        Checks.due("a shelf with a thing that was there", x.holds(0), 0);
        Checks.due("another", x.holds(3), 0);
        Checks.due("a shelf with a thing that wasn't", x.holds(2), -1);
        Checks.due("a row is as it is", x.element(1, 0), 5);
        Checks.due("the trace too", x.trace(0), 10);
        Checks.due("the bodies too", x.status(10), 1);
        Checks.due("the fault too", x.fault(), 5);
        Checks.due("the refusals too", x.status(16), 4);
        x.show(3, -1);
        x.set(1, 0, 0);
        x.act(9, 0, 0);
        Checks.text(x, 4, "side 5");
        x.house(4);
        x.show(4, -1);
        Checks.same("all is as it was", Watch.twin(x), Watch.twin(as));
        x.thing(0, 0, 0);
        x.thing(0, 0, 0);
        Checks.due("the image is kept", x.restore(), 1);
        Checks.same("all is as it was again", Watch.twin(x), as);
        x.thing(6, 9, 0);
        Checks.due("another image", x.image(), 2);
        x.shut(1, false);
        Checks.due("it is that", x.restore(), 2);
        Checks.due("shut", x.thingOf(1, 3), 1);
    }

    private static void promise46Status() {
        Face x = Checks.built("side 6;thing 0 0 0;thing 0 0 0;neighbour 2 3;power 33;channel 4;minute 5",
            "device 0 1 1;device 0 1 1;device 0 1 1;box 0 10;box 1 21");
        x.seed(99);
        x.act(0, 1, 0);
        int[] due = {2, 6, 1, 3, 33, 4, 5, 10, 21, 99, 2};
        for (int what = 0; what < due.length; what++) {
            Checks.due("status " + what, x.status(what), due[what]);
        }
        x.row(9, 0, 0);
        x.show(0, 0);
        for (int i = 0; i < 2; i++) {
            x.set(0, 0, 0);
        }
        for (int i = 0; i < 3; i++) {
            x.set(1, 0, 0);
        }
        for (int i = 0; i < 4; i++) {
            x.row(0, 0, -1);
        }
        for (int i = 0; i < 5; i++) {
            x.thingOf(9, 0);
        }
        for (int i = 0; i < 6; i++) {
            x.near(99, 0);
        }
        for (int i = 0; i < 7; i++) {
            x.row(0, 0, 161);
        }
        for (int code = 1; code <= 7; code++) {
            Checks.due("refusals -" + code, x.status(10 + code), code);
        }
        for (int what : new int[] {-1, 18, Integer.MIN_VALUE, Integer.MAX_VALUE}) {
            Checks.due("another what", x.status(what), -1);
        }
        Checks.due("it is not refused", x.status(15), 5);
    }

    public static void main(String[] args) {
        promise39Evening();
        promise40Weeks();
        promise41Seed();
        promise42ActAnd43Trace();
        promise44ImageAnd45Restore();
        promise46Status();
        Checks.end("TruthTest");
    }
}
