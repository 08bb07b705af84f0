/** What "3. WHAT COMES OF IT" says of shelves, rows, draws, moves, the trace; and the image: each at its edges. */
public final class EdgeShelfTest {
    private static final int LOW = Integer.MIN_VALUE;
    private static final int HIGH = Integer.MAX_VALUE;

    private static void shelves() {
        Checks.says("SHELVES 0 to 7 hold NOTHING (at first), a ROW, or a THING.");
        Face x = Watch.fresh();
        x.thing(0, 0, 0);
        for (int s : new int[] {LOW, -1, 8, HIGH}) {
            Checks.due("no shelf " + s, x.holds(s), -1);
            Checks.due("no shelf " + s, x.row(s, 0, 0), -1);
            Checks.due("no shelf " + s, x.set(s, 0, 0), -1);
            Checks.due("no shelf " + s, x.show(s, 0), -1);
            Checks.due("no shelf " + s, x.says(s, 0), -1);
            Checks.due("no shelf " + s, x.house(s), -1);
            Checks.due("no shelf " + s, x.copy(s, 0, 0, 0, 0), -1);
            Checks.due("no shelf " + s, x.copy(0, s, 0, 0, 0), -1);
            Checks.due("no shelf " + s, x.fits(s, 0, -1), -1);
            Checks.due("no shelf " + s, x.next(s, 0), -11);
            Checks.due("no shelf " + s, x.judge(s, 0), -11);
            Checks.due("no shelf " + s, x.hops(s, 0, 0), -1);
            Checks.due("no shelf " + s, x.element(s, 0), 0);
        }
        for (int s = 0; s <= 7; s++) {
            Checks.due("nothing at first", x.holds(s), -1);
            Checks.due("nothing is refused as nothing", x.set(s, 0, 0), -3);
            Checks.due("a row", x.row(s, s % 4, 1), 1);
            Checks.due("of its sort", x.holds(s), 100 + s % 4);
            Checks.due("a thing", x.show(s, 0), 1);
            Checks.due("its number", x.holds(s), 0);
            Checks.due("nothing again", x.show(s, -1), 0);
            Checks.due("nothing", x.holds(s), -1);
            Checks.due("its row is gone", x.element(s, 0), 0);
        }
        Checks.says("holds: What SHELF s holds: NONE NOTHING, or no such SHELF; a THING's number; 100 and the SORT of a ROW.");
        for (int i = 1; i < 16; i++) {
            x.thing(0, 0, 0);
        }
        Checks.due("the last thing", x.show(7, 15), 1);
        Checks.due("its number", x.holds(7), 15);
        Checks.due("no such thing", x.show(7, 16), -1);
        Checks.due("it holds it still", x.holds(7), 15);
    }

    private static void rows() {
        Checks.says("A ROW has a SORT (0 bytes, 1 shorts, 2 ints, 3 longs) and 0 to 160 elements, 0 at first");
        Face x = Watch.fresh();
        for (int sort = 0; sort <= 3; sort++) {
            Checks.due("none", x.row(0, sort, 0), 1);
            Checks.due("no first", x.set(0, 0, 1), -5);
            Checks.due("160", x.row(0, sort, 160), 1);
            Checks.due("the first", x.element(0, 0), 0);
            Checks.due("the last", x.element(0, 159), 0);
            Checks.due("put in", x.set(0, 159, 1), 1);
            Checks.due("it is", x.element(0, 159), 1);
            Checks.due("one more", x.set(0, 160, 1), -5);
            Checks.due("161", x.row(0, sort, 161), -7);
            Checks.due("the old one stays", x.element(0, 159), 1);
            Checks.due("-1", x.row(0, sort, -1), -4);
            Checks.due("the old one stays", x.holds(0), 100 + sort);
        }
        Checks.due("sort 4", x.row(0, 4, 1), -6);
        Checks.due("sort -1", x.row(0, -1, 1), -6);
        Checks.due("a shorter one", x.row(0, 3, 2), 1);
        Checks.due("160 again", x.row(0, 3, 160), 1);
        Checks.due("0 at first, whatever was", x.element(0, 159), 0);
        Checks.says("what is put in keeps its lowest bits.");
        long[][] put = {{127, 127, 127, 127, 127}, {128, -128, 128, 128, 128}, {-128, -128, -128, -128, -128},
            {-129, 127, -129, -129, -129}, {255, -1, 255, 255, 255}, {256, 0, 256, 256, 256},
            {32767, -1, 32767, 32767, 32767}, {32768, 0, -32768, 32768, 32768}, {-32769, -1, 32767, -32769, -32769},
            {65535, -1, -1, 65535, 65535}, {65536, 0, 0, 65536, 65536}, {HIGH, -1, -1, HIGH, HIGH},
            {HIGH + 1L, 0, 0, LOW, HIGH + 1L}, {LOW - 1L, -1, -1, HIGH, LOW - 1L}, {(1L << 32) - 1, -1, -1, -1, (1L << 32) - 1},
            {1L << 32, 0, 0, 0, 1L << 32}, {Long.MAX_VALUE, -1, -1, -1, Long.MAX_VALUE}, {Long.MIN_VALUE, 0, 0, 0, Long.MIN_VALUE},
            {-1, -1, -1, -1, -1}, {0, 0, 0, 0, 0}};
        for (int sort = 0; sort <= 3; sort++) {
            Face y = Watch.fresh();
            y.row(4, sort, 3);
            for (long[] p : put) {
                Checks.due("set " + p[0], y.set(4, 1, p[0]), 1);
                Checks.due(p[0] + " in sort " + sort, y.element(4, 1), p[1 + sort]);
                Checks.due("the one ahead", y.element(4, 0), 0);
                Checks.due("the one behind", y.element(4, 2), 0);
            }
        }
        Checks.says("(As ints: of longs the lowest 32 bits.)");
        Face y = Watch.fresh();
        Checks.fill(y, 0, 3, 33 + (1L << 32), 3 - (1L << 32), 23, (1L << 63) + 24, 5L << 32);
        Checks.due("a walk", y.judge(0, 3), 1);
        y.set(0, 1, 32L + (9L << 32));
        Checks.due("a walk by the lowest", y.judge(0, 3), 2);
        y.set(0, 1, 3 - (1L << 32));
        Checks.due("pairs: six steps off", y.fits(0, 1, 0), 0);
        Checks.due("hops of that", y.hops(0, 1, 4), 0);
        y.set(0, 0, 33 + (1L << 31));
        Checks.due("32 bits of a number below 0", y.judge(0, 1), 0);
        Checks.due("no cell either", y.fits(0, 1, -1), -6);
    }

    private static void copies() {
        Checks.says("Elements i, i + 1, .. of the ROW in SHELF p, n of them, come to elements j, j + 1, .. of that in q "
            + "(as they were ahead): 1.");
        for (int i = 0; i <= 4; i++) {
            for (int j = 0; j <= 4; j++) {
                for (int n = 0; n <= 5; n++) {
                    Face x = Watch.fresh();
                    Checks.fill(x, 0, 1, 1, 2, 3, 4);
                    Checks.fill(x, 1, 1, 5, 6, 7);
                    String call = "copy from " + i + " to " + j + ", " + n;
                    boolean own = i + n <= 4 && j + n <= 4, other = i + n <= 4 && j + n <= 3;
                    Checks.due(call, x.copy(0, 1, i, j, n), other ? 1 : -5);
                    for (int k = 0; k < 3; k++) {
                        boolean in = other && k >= j && k < j + n;
                        Checks.due(call + ", " + k, x.element(1, k), in ? i + k - j + 1 : 5 + k);
                    }
                    Checks.due(call + " of its own", x.copy(0, 0, i, j, n), own ? 1 : -5);
                    for (int k = 0; k < 4; k++) {
                        boolean in = own && k >= j && k < j + n;
                        Checks.due(call + " of its own, " + k, x.element(0, k), in ? i + k - j + 1 : k + 1);
                    }
                }
            }
        }
        Face x = Watch.fresh();
        x.row(0, 0, 160);
        x.row(7, 0, 160);
        x.set(0, 0, 7);
        x.set(0, 159, 9);
        Checks.due("all 160", x.copy(0, 7, 0, 0, 160), 1);
        Checks.due("the first", x.element(7, 0), 7);
        Checks.due("the last", x.element(7, 159), 9);
        Checks.due("161", x.copy(0, 7, 0, 0, 161), -5);
        Checks.due("none behind the last", x.copy(0, 7, 160, 160, 0), 1);
        Checks.due("none farther behind", x.copy(0, 7, 161, 0, 0), -5);
        Checks.due("to none farther behind", x.copy(0, 7, 0, 161, 0), -5);
        Checks.due("an end that wraps around", x.copy(0, 7, HIGH, 0, 1), -5);
        Checks.due("another", x.copy(0, 7, 0, HIGH, HIGH), -5);
        Checks.due("both", x.copy(0, 7, HIGH, HIGH, HIGH), -5);
        x.row(1, 0, 0);
        Checks.due("none of none", x.copy(1, 1, 0, 0, 0), 1);
        Checks.due("one of none", x.copy(1, 1, 0, 0, 1), -5);
        Checks.says("Element i of the ROW; 0 if there is none (nothing is refused).");
        for (int i : new int[] {LOW, -1, 160, 161, HIGH}) {
            Checks.due("element " + i, x.element(7, i), 0);
        }
    }

    private static void says() {
        Checks.says("says() goes by the KIND asked for: a GLASS taken for a DOOR tells whether it is SHUT; "
            + "a COT taken for an OVEN tells its own HUM.");
        Face x = Checks.built("thing 5 9 11;thing 6 9 12;thing 4 3 12;thing 3 2 13;thing 2 7 21");
        x.show(0, 0);
        Checks.due("a glass taken for a door, shut", x.says(0, 2), 1);
        Checks.due("a glass taken for a glass", x.says(0, 5), 4);
        x.shut(0, false);
        Checks.due("a glass taken for a door, open", x.says(0, 2), 0);
        Checks.due("a glass taken for a glass, open", x.says(0, 5), 0);
        Checks.due("taken for a thing", x.says(0, 0), 11);
        x.show(0, 1);
        Checks.due("a cot taken for an oven, not the oven's hum beside it", x.says(0, 4), 10);
        Checks.due("a cot taken for a cot", x.says(0, 6), 10);
        x.show(0, 2);
        for (int minute : new int[] {0, 2, 3, 9, 50, 52, 53, 59}) {
            x.ask(2, minute);
            Checks.due("an oven of 3 in " + minute, x.says(0, 4), minute % 10 < 3 ? 20 : 0);
        }
        Checks.due("an oven is no cot", x.says(0, 6), -2);
        x.show(0, 3);
        Checks.due("an old wall taken for a wall", x.says(0, 1), 10);
        Checks.due("an old wall taken for one", x.says(0, 3), 10);
        Checks.due("it is no door", x.says(0, 2), -2);
        x.show(0, 4);
        Checks.due("a door is shut, whatever its loss", x.says(0, 2), 1);
        Checks.due("it is no glass", x.says(0, 5), -2);
    }

    private static int after(int seed) {
        return seed * 1103515245 + 12345;
    }

    /** A SEED by which the first DRAW below 4 is this, and the upper bit behind is as told. */
    private static int seedFor(int what, boolean high, int from) {
        int seed = from;
        while ((after(seed) >>> 16) % 4 != what || after(seed) < 0 != high) {
            seed += 977;
        }
        return seed;
    }

    private static void draws() {
        Checks.says("A DRAW below n: SEED (1 at first) becomes SEED times 1103515245, and 12345 (an int, wrapping); "
            + "its upper 16 bits, no sign, modulo n.");
        Checks.due("at first", Watch.fresh().status(9), 1);
        for (int seed : new int[] {0, 1, -1, LOW, HIGH, 65535, 65536, -65536, 2}) {
            Face x = Watch.fresh();
            x.seed(seed);
            x.weeks(1);
            Checks.due("one draw of " + seed, x.status(9), after(seed));
        }
        Checks.due("by hand", after(0), 12345);
        Checks.due("by hand", after(1), 1103527590);
        Checks.due("by hand, wrapped", after(2), -2087924461);
        for (int what = 0; what < 4; what++) {
            for (int k = 0; k < 20; k++) {
                week(what, seedFor(what, k % 2 == 0, 1000003 * k));
            }
        }
    }

    private static int drawn(int seed, int n) {
        return (int) (((long) seed & 0xFFFFFFFFL) / 65536 % n);
    }

    /** One week: three devices, things and neighbours, SIDE 7. */
    private static void week(int what, int seed) {
        Checks.says("WEEKS by draws, n times: a DRAW below 4: 0 a DEVICE (a DRAW below how many there are) goes to a CELL "
            + "(a DRAW below SIDE for its ROW, then for its COLUMN), 1 a THING (likewise) is SHUT, or open, the other way "
            + "about, 2 a NEIGHBOUR (likewise) goes to a CHANNEL (1 and a DRAW below 13), else nothing");
        Face x = Watch.fresh();
        x.side(7);
        for (int i = 0; i < 3; i++) {
            x.device(i, 1, 1);
            x.thing(2, 1, 0);
            x.neighbour(1 + i, 0);
        }
        x.shut(1, false);
        x.seed(seed);
        x.weeks(1);
        int one = after(seed), two = after(one), three = after(two), four = after(three);
        int picked = drawn(two, 3);
        for (int i = 0; i < 3; i++) {
            boolean is = i == picked;
            Checks.due("device " + i, x.deviceOf(i, 0), what == 0 && is ? 10 * drawn(three, 7) + drawn(four, 7) : i);
            Checks.due("thing " + i, x.thingOf(i, 3), (i == 1 ? 0 : 1) ^ (what == 1 && is ? 1 : 0));
            Checks.due("neighbour " + i, x.goesTo(i, 0), what == 2 && is ? 1 + drawn(three, 13) : 1 + i);
        }
        int[] seeds = {four, two, three, one};
        Checks.due("seed of " + what, x.status(9), seeds[what]);
        Checks.due("a minute", x.status(6), 1);
        Checks.says("(none such is there: nothing, and no DRAW more)");
        Face y = Watch.fresh();
        for (int kind = 0; kind < 3; kind++) {
            if (kind != what) {
                int i = kind == 0 ? y.device(33, 1, 1) : kind == 1 ? y.thing(2, 1, 0) : y.neighbour(1, 0);
                Checks.due("the first", i, 0);
            }
        }
        y.seed(seed);
        y.weeks(1);
        Checks.due("one draw alone, " + what, y.status(9), what == 3 ? one : after(seed));
        Checks.due("a minute all the same", y.status(6), 1);
    }

    /** One of a sort is enough: a DRAW below 1 is drawn for it. */
    private static void oneOfASort() {
        for (int what = 0; what < 3; what++) {
            Face x = Watch.fresh();
            int i = what == 0 ? x.device(0, 1, 1) : what == 1 ? x.thing(2, 1, 0) : x.neighbour(1, 0);
            int seed = seedFor(what, true, 31);
            int one = after(seed), two = after(one), three = after(two), four = after(three);
            x.seed(seed);
            x.weeks(1);
            Checks.due("the one of sort " + what, i, 0);
            Checks.due("draws for it", x.status(9), what == 0 ? four : what == 1 ? two : three);
            Checks.due("a device's cell", x.deviceOf(0, 0), what == 0 ? 10 * drawn(three, 4) + drawn(four, 4) : -5);
            Checks.due("a thing is open", x.thingOf(0, 3), what == 1 ? 0 : -5);
            Checks.due("a neighbour's channel", x.goesTo(0, 0), what == 2 ? 1 + drawn(three, 13) : -1);
        }
    }

    private static void weeks() {
        Checks.says("then a MINUTE passes by the rule of 1. FILLED of all these, behind each, together.");
        Face x = Watch.fresh();
        x.device(0, 5, 99);
        x.ask(0, 60);
        int seed = seedFor(3, true, 0);
        x.seed(seed);
        Checks.due("one", x.weeks(1), 99);
        Face y = Checks.built("side 8;power 20;box 1 77;device 66 1 9;minute 59");
        y.seed(seed);
        Checks.due("1 bar of box 1 is half of one: none", y.weeks(1), 0);
        Checks.due("none is 1 at most: it let go", y.deviceOf(0, 3), 1);
        Checks.due("the hour is round", y.status(6), 0);
        Face z = Checks.built("power 60;box 0 2;box 1 0;device 00 1 9;thing 0 9 0;thing 0 9 0;thing 0 9 0");
        z.seed(seed);
        Checks.due("2 bars are more than 1", z.bars(0, 0, 1), 2);
        Checks.due("filled", z.weeks(1), 9);
        Checks.due("it stays", z.deviceOf(0, 3), 0);
        z.thing(0, 9, 0);
        z.thing(0, 1, 0);
        z.seed(seed);
        Checks.due("1 bar is 1 at most: filled by box 1 then", z.weeks(1), 9);
        Checks.due("it let go", z.deviceOf(0, 3), 1);
        Checks.says("weeks: WEEKS, n (1 to 60): FILLED of all. -6.");
        Face w = Watch.fresh();
        for (int n : new int[] {LOW, -1, 0, 61, HIGH}) {
            Checks.due("weeks " + n, w.weeks(n), -6);
        }
        Checks.due("no draw, no minute", w.status(9) + w.status(6), 1);
        Checks.due("60", w.weeks(60), 0);
        int s = 1;
        for (int i = 0; i < 60; i++) {
            s = after(s);
        }
        Checks.due("60 draws", w.status(9), s);
        Checks.due("60 minutes", w.status(6), 0);
        // Nothing that a draw can change matters here: 6 devices of 99 with a want of 1 are filled everywhere.
        Face v = Watch.fresh();
        for (int i = 0; i < 6; i++) {
            v.device(0, 1, 99);
        }
        Checks.due("60 times all", v.weeks(60), 60 * 594);
        Checks.due("once all", v.weeks(1), 594);
        Checks.says("seed: SEED becomes v: what it was (nothing is refused).");
        for (int n : new int[] {LOW, HIGH, -1, 0, 1}) {
            int was = v.status(9);
            Checks.due("seed " + n, v.seed(n), was);
            Checks.due("seed is", v.status(9), n);
        }
    }

    private static void acts(int kind, int a, int m, int move, int x0, int due) {
        Face x = Watch.fresh();
        for (int i = 0; i < m; i++) {
            x.thing(0, 0, 0);
        }
        x.thing(kind, a, 0);
        Checks.due("a " + kind + " of " + a + ", number " + m + ", " + move + " with " + x0, x.act(m, move, x0), due);
    }

    private static void moves() {
        Checks.says("MOVES of THINGS, with x (wrapping): 0 stands, 1 takes, 2 hums; m the number, k its a.");
        acts(0, 9, 15, 0, HIGH, LOW + 14);
        acts(0, 9, 15, 0, -15, 0);
        acts(0, 0, 0, 0, LOW, LOW);
        acts(0, 0, 0, 1, 1 << 30, LOW);
        acts(0, 0, 1, 1, HIGH, 0);
        acts(0, 0, 0, 1, LOW, 0);
        acts(0, 9, 0, 2, LOW, HIGH - 8);
        acts(1, 9, 0, 0, HIGH, LOW + 8);
        acts(2, 0, 0, 1, 1 << 30, LOW);
        acts(2, 0, 0, 1, HIGH, -6);
        acts(3, 0, 0, 1, HIGH, 0);
        acts(3, 1, 1, 1, HIGH, 4);
        acts(3, 1, 1, 0, HIGH, LOW + 1);
        acts(4, 0, 0, 2, LOW, LOW);
        acts(4, 9, 15, 0, HIGH, HIGH);
        acts(4, 1, 0, 2, LOW, LOW + 1);
        acts(5, 9, 0, 2, LOW, HIGH - 8 ^ 5);
        acts(6, 0, 0, 0, 1 << 30, LOW);
        acts(6, 9, 0, 1, LOW, -36);
        Checks.says("0, and no TRACE then: no such THING, move.");
        Face x = Checks.built("thing 6 3 0");
        int[][] bad = {{-1, 0}, {1, 0}, {LOW, 0}, {HIGH, 0}, {0, -1}, {0, 3}, {0, LOW}, {0, HIGH}, {1, 3}};
        for (int[] b : bad) {
            x.act(0, 2, 10);
            Checks.due("bodies", x.status(10), 10);
            Checks.due("the last of them", x.trace(9), 10);
            Checks.due("act " + b[0] + " " + b[1], x.act(b[0], b[1], 10), 0);
            Checks.due("no bodies", x.status(10), 0);
            Checks.due("no trace", x.trace(0), -1);
        }
        Checks.due("nothing refused", x.status(11) + x.status(15) + x.status(16), 0);
        Checks.says("THE TRACE's i-th body. NONE: none such.");
        x.act(0, 2, 10);
        int[] bodies = {50, 12, 71, 11, 70, 51, 10, 70, 51, 10};
        for (int i = -1; i <= 21; i++) {
            Checks.due("body " + i, x.trace(i), i >= 0 && i < 10 ? bodies[i] : -1);
        }
        Checks.due("far ahead", x.trace(LOW), -1);
        Checks.due("far behind", x.trace(HIGH), -1);
        x.act(0, 0, 10);
        Checks.due("of the latest act alone", x.trace(3), -1);
        Checks.due("its first", x.trace(0), 70);
        x.side(2);
        x.move(0, 3);
        x.image();
        x.restore();
        Checks.due("other calls leave it", x.trace(2), 10);
        Checks.due("none before the first act", Watch.fresh().trace(0), -1);
        Checks.due("no bodies before the first act", Watch.fresh().status(10), 0);
    }

    private static void image() {
        Checks.says("SHELVES with THINGS hold those of these numbers, or NOTHING: how many THINGS.");
        Face x = Watch.fresh();
        x.thing(0, 0, 0);
        x.thing(0, 0, 0);
        Checks.due("image", x.image(), 2);
        for (int i = 2; i < 5; i++) {
            x.thing(1, 1, 11);
        }
        for (int s = 0; s < 5; s++) {
            x.show(s, s);
        }
        x.show(7, 4);
        x.row(5, 2, 1);
        x.set(5, 0, 9);
        Checks.due("restore", x.restore(), 2);
        int[] holds = {0, 1, -1, -1, -1, 102, -1, -1};
        for (int s = 0; s < 8; s++) {
            Checks.due("shelf " + s, x.holds(s), holds[s]);
        }
        Checks.due("rows stay", x.element(5, 0), 9);
        Checks.due("a shelf that held one holds nothing", x.says(2, 0), -3);
        x.thing(6, 0, 0);
        Checks.due("the number anew: the shelf holds nothing still", x.holds(2), -1);
        Face z = Watch.fresh();
        z.image();
        z.thing(0, 0, 0);
        z.show(0, 0);
        z.row(0, 1, 2);
        z.set(0, 1, 7);
        z.restore();
        Checks.due("a row where a thing was is a row", z.holds(0), 101);
        Checks.due("and has its elements", z.element(0, 1), 7);
        Face w = Checks.built("box 1 33;device 33 1 1;device 00 1 1");
        w.evening(1, 3);
        w.image();
        w.box(1, -1);
        w.evening(1, 4);
        Checks.due("it went", w.deviceOf(0, 3), 0);
        Checks.text(w, 0, "minute 5");
        w.house(0);
        w.restore();
        Checks.due("what it clings to is in the image", w.deviceOf(0, 3), 1);
        Checks.due("and the other's", w.deviceOf(1, 3), 0);
        w.house(0);
        Checks.due("a text leaves what it clings to", w.deviceOf(0, 3), 1);
        Checks.due("it is told over that", w.status(6), 5);
        Checks.says("-6 there is none.");
        Checks.due("none yet", Watch.fresh().restore(), -6);
        Face y = Watch.fresh();
        Checks.due("an image of nothing", y.image(), 0);
        y.thing(0, 0, 0);
        y.show(0, 0);
        Checks.due("is one", y.restore(), 0);
        Checks.due("no thing", y.holds(0), -1);
        y.thing(0, 0, 0);
        Checks.due("kept for ever", y.restore(), 0);
        Checks.says("THE IMAGE of all but SHELVES (and THE IMAGE, REFUSALS, the FAULT, THE TRACE)");
        y.seed(5);
        y.ask(2, 5);
        y.image();
        y.weeks(60);
        y.row(9, 0, 0);
        y.restore();
        Checks.due("the seed", y.status(9), 5);
        Checks.due("the minute", y.status(6), 5);
        Checks.due("not the refusals", y.status(11), 1);
        Face full = Watch.fresh();
        for (int i = 0; i < 16; i++) {
            full.thing(i % 7, i % 10, i % 4);
        }
        Checks.due("of 16", full.image(), 16);
        full.move(15, 33);
        Checks.due("restored", full.restore(), 16);
        Checks.due("the last is where it was", full.thingOf(15, 2), 3);
        Checks.says("NONE for another what.");
        for (int what : new int[] {LOW, -1, 18, 19, HIGH}) {
            Checks.due("status " + what, full.status(what), -1);
        }
        Checks.due("not refused", full.status(15), 0);
    }

    public static void main(String[] args) {
        shelves();
        rows();
        copies();
        says();
        draws();
        oneOfASort();
        weeks();
        moves();
        image();
        Checks.end("EdgeShelfTest");
    }
}
