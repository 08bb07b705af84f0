/**
 * REFUSALS: for each call all that may be wrong about it, alone and together: the first that fits is answered, it
 * alone is counted, and nothing else changes.
 */
public final class RefusalTest {
    private static final int LOW = Integer.MIN_VALUE;
    private static final int HIGH = Integer.MAX_VALUE;
    private static final int[] SHELF = {LOW, -1, -1, -1, 0, 0, 7, 0, 8, -1, HIGH, -1};

    /** A call with its arguments. */
    interface Told {
        int on(Face x, int[] a);
    }

    private static Face furnished() {
        Face x = Watch.fresh();
        x.side(5);
        x.thing(5, 9, 11);
        x.thing(6, 3, 12);
        x.thing(3, 1, 13);
        x.neighbour(6, 3);
        x.neighbour(11, 20);
        x.device(33, 2, 40);
        x.device(0, 5, 7);
        x.box(1, 21);
        x.device(21, 1, 9);
        x.evening(1, 4);
        x.ask(2, 58);
        x.image();
        x.shut(0, false);
        Checks.fill(x, 0, 2, 7, 8, 9, 10);
        Checks.fill(x, 1, 3, 1L << 40, 2);
        x.row(2, 2, 2);
        x.show(3, 1);
        Checks.text(x, 6, "sid");
        x.house(6);
        x.act(2, 2, 9);
        x.row(0, 0, -1);
        x.row(0, 4, 0);
        x.row(0, 0, 161);
        return x;
    }

    private static Face full() {
        Face x = Watch.fresh();
        for (int i = 0; i < 16; i++) {
            x.thing(i % 7, i % 10, i % 4);
        }
        for (int i = 0; i < 8; i++) {
            x.neighbour(1 + i, 2 * i);
        }
        for (int i = 0; i < 6; i++) {
            x.device(i % 4, 1 + i % 5, 90 + i);
        }
        return x;
    }

    /** A call as it reads. */
    private static String reads(String name, int[] a) {
        StringBuilder b = new StringBuilder(name).append('(');
        for (int i = 0; i < a.length; i++) {
            b.append(i == 0 ? "" : ", ").append(a[i]);
        }
        return b.append(')').toString();
    }

    /** A refusal is due, or for 0 none. */
    private static void one(String name, Face x, Told told, int lower, int code, int... a) {
        String call = reads(name, a);
        if (code != 0) {
            Checks.refused(call, x, y -> told.on(y, a), code - lower);
            return;
        }
        Face then = Watch.twin(x);
        told.on(then, a);
        Checks.counted(call, then, Watch.twin(x), 0);
    }

    /**
     * All that each argument may be with all that the others may be. Of each its values, and behind each the
     * refusal that it is due, 0 if none; as refusals go from -1 down, the first that fits is the greatest.
     */
    private static void cross(String name, Face x, int lower, Told told, int[]... values) {
        int[] at = new int[values.length];
        int[] a = new int[values.length];
        boolean more = true;
        while (more) {
            int code = 0;
            for (int k = 0; k < at.length; k++) {
                a[k] = values[k][at[k]];
                int own = values[k][at[k] + 1];
                code = code == 0 || own != 0 && own > code ? own : code;
            }
            one(name, x, told, lower, code, a.clone());
            int k = 0;
            while (k < at.length && (at[k] += 2) == values[k].length) {
                at[k] = 0;
                k++;
            }
            more = k < at.length;
        }
    }

    private static void cross(String name, Face x, Told told, int[]... values) {
        cross(name, x, 0, told, values);
    }

    /** Values that may be, and others that are due this. */
    private static int[] may(int code, int[] may, int... not) {
        int[] all = new int[2 * (may.length + not.length)];
        for (int i = 0; i < may.length; i++) {
            all[2 * i] = may[i];
        }
        for (int i = 0; i < not.length; i++) {
            all[2 * (may.length + i)] = not[i];
            all[2 * (may.length + i) + 1] = code;
        }
        return all;
    }

    /** From least to most; what is less or more is due this. */
    private static int[] range(int code, int least, int most) {
        return may(code, new int[] {least, most}, least - 1, most + 1, LOW, HIGH);
    }

    private static int[] cell(int code) {
        return may(code, new int[] {0, 4, 44}, LOW, -1, 5, 45, 50, HIGH);
    }

    private static int[] and(int[] one, int... more) {
        int[] all = java.util.Arrays.copyOf(one, one.length + more.length);
        System.arraycopy(more, 0, all, one.length, more.length);
        return all;
    }

    private static void shelves() {
        Checks.says("Promise 2, row: -1; -4; -6 SORT; -7 n above 160.");
        Face x = furnished();
        cross("row", x, (y, a) -> y.row(a[0], a[1], a[2]), SHELF, range(-6, 0, 3),
            new int[] {LOW, -4, -1, -4, 0, 0, 160, 0, 161, -7, HIGH, -7});
        Checks.says("Promise 3, set: -1; -2; -3; -5.");
        int[] rows = {LOW, -1, -1, -1, 8, -1, 3, -2, 4, -3, 2, 0};
        cross("set", x, (y, a) -> y.set(a[0], a[1], 77L), rows, range(-5, 0, 1));
        Checks.says("Promise 6, show: -1.");
        cross("show", x, (y, a) -> y.show(a[0], a[1]), SHELF, may(-1, new int[] {-1, 0, 2}, -2, 3, LOW, HIGH));
        cross("show", Watch.fresh(), (y, a) -> y.show(a[0], a[1]), SHELF, may(-1, new int[] {-1}, -2, 0, HIGH));
        Checks.says("Promise 8, says: -1 SHELF, KIND; -2 also a THING of another KIND; -3.");
        cross("says", x, (y, a) -> y.says(a[0], a[1]), new int[] {LOW, -1, -1, -1, 8, -1, HIGH, -1, 0, -2, 4, -3},
            range(-1, 0, 6));
        // Shelf 3 holds a COT.
        cross("says", x, (y, a) -> y.says(3, a[0]),
            new int[] {-1, -1, 0, 0, 1, -2, 2, -2, 3, -2, 4, 0, 5, -2, 6, 0, 7, -1, LOW, -1, HIGH, -1});
        Checks.says("Promise 19, house: -1; -2; -3");
        cross("house", x, (y, a) -> y.house(a[0]), new int[] {LOW, -1, -1, -1, 8, -1, HIGH, -1, 3, -2, 4, -3, 7, -3});
    }

    private static int copyDue(int p, int q, int i, int j, int n) {
        int[] size = {4, 2, 2};
        int[] sort = {2, 3, 2};
        if (p < 0 || p > 7 || q < 0 || q > 7) {
            return -1;
        }
        if (p == 3 || q == 3 || p < 3 && q < 3 && sort[p] != sort[q]) {
            return -2;
        }
        if (p > 3 || q > 3) {
            return -3;
        }
        if (n < 0) {
            return -4;
        }
        return i < 0 || j < 0 || (long) i + n > size[p] || (long) j + n > size[q] ? -5 : 0;
    }

    private static void copies() {
        Checks.says("Promise 4, copy: -1; -2 also of two SORTS (when both hold something); -3 either; -4 n; "
            + "-5 i or j below 0, or an end that isn't there.");
        Face x = furnished();
        Told told = (y, a) -> y.copy(a[0], a[1], a[2], a[3], a[4]);
        int[] all = {-1, 8, 0, 1, 2, 3, 4};
        for (int p : all) {
            for (int q : all) {
                for (int k = 0; k < 8; k++) {
                    int i = -(k & 1), j = -(k >> 1 & 1), n = -(k >> 2 & 1);
                    one("copy", x, told, 0, copyDue(p, q, i, j, n), p, q, i, j, n);
                }
            }
        }
        int[] places = {LOW, -1, 0, 1, 2, 3, 4, 5, HIGH};
        for (int i : places) {
            for (int j : places) {
                for (int n : new int[] {LOW, -1, 0, 1, 2, 3, HIGH}) {
                    one("copy", x, told, 0, copyDue(0, 2, i, j, n), 0, 2, i, j, n);
                }
            }
        }
        one("copy", x, told, 0, -1, LOW, 0, 0, 0, 0);
        one("copy", x, told, 0, -1, 0, HIGH, 0, 0, 0);
    }

    private static void house() {
        Checks.says("Promise 9, side: -6 also less than it is.");
        cross("side", Watch.fresh(), (y, a) -> y.side(a[0]), and(range(-6, 4, 8), 2, -6, 1, -6));
        Face x = furnished();
        cross("side", x, (y, a) -> y.side(a[0]), and(range(-6, 5, 8), 2, -6, 1, -6));
        Told thing = (y, a) -> y.thing(a[0], a[1], a[2]);
        Told neighbour = (y, a) -> y.neighbour(a[0], a[1]);
        Told device = (y, a) -> y.device(a[0], a[1], a[2]);
        Checks.says("Promise 10, thing: -1 KIND; -6; -7.");
        cross("thing", x, thing, range(-1, 0, 6), range(-6, 0, 9), cell(-6));
        Checks.says("Promise 11, neighbour: -6; -7.");
        cross("neighbour", x, neighbour, range(-6, 1, 13), range(-6, 0, 20));
        Checks.says("Promise 12, device: -6; -7.");
        cross("device", x, device, cell(-6), range(-6, 1, 5), range(-6, 1, 99));
        Face full = full();
        int[] corner = {0, -7, 33, -7, 4, -6, -1, -6, 34, -6, 40, -6};
        Checks.says("Promise 10, thing, where there is no room: -1 KIND; -6; -7.");
        cross("thing", full, thing, new int[] {-1, -1, 0, -7, 6, -7, 7, -1}, new int[] {-1, -6, 0, -7, 9, -7, 10, -6}, corner);
        Checks.says("Promise 11, neighbour, where there is no room: -6; -7.");
        cross("neighbour", full, neighbour, new int[] {0, -6, 1, -7, 13, -7, 14, -6}, new int[] {-1, -6, 0, -7, 20, -7, 21, -6});
        Checks.says("Promise 12, device, where there is no room: -6; -7.");
        cross("device", full, device, corner, new int[] {0, -6, 1, -7, 5, -7, 6, -6}, new int[] {0, -6, 1, -7, 99, -7, 100, -6});
        Checks.says("Promise 13, box: -16 (counted as -6).");
        Told box = (y, a) -> y.box(a[0], a[1]);
        cross("box", x, 10, box, range(-6, 0, 1), may(-6, new int[] {0, 44}, LOW, -2, 5, 45, 50, HIGH));
        cross("box to none", x, 10, box, new int[] {-1, -6, 0, -6, 1, 0, 2, -6}, new int[] {-1, 0});
        Checks.says("Promise 14, ask: -6.");
        Told ask = (y, a) -> y.ask(a[0], a[1]);
        cross("ask", x, ask, new int[] {0, 0}, range(-6, 10, 60));
        cross("ask", x, ask, new int[] {1, 0}, range(-6, 1, 13));
        cross("ask", x, ask, new int[] {2, 0}, range(-6, 0, 59));
        cross("ask", x, ask, new int[] {-1, -6, 3, -6, LOW, -6, HIGH, -6}, new int[] {10, 0, 0, 0, -1, 0});
        Checks.says("Promise 15, shut: -1.");
        cross("shut", x, (y, a) -> y.shut(a[0], a[1] == 1), range(-1, 0, 2), new int[] {0, 0, 1, 0});
        cross("shut", Watch.fresh(), (y, a) -> y.shut(a[0], true), new int[] {-1, -1, 0, -1});
        Checks.says("Promise 16, move: -1; -6.");
        cross("move", x, (y, a) -> y.move(a[0], a[1]), range(-1, 0, 2), cell(-6));
        cross("move", Watch.fresh(), (y, a) -> y.move(a[0], a[1]), new int[] {0, -1}, new int[] {0, 0, 44, -6});
        Checks.says("Promise 45, restore: -6 there is none.");
        cross("restore", Watch.fresh(), (y, a) -> y.restore(), new int[] {0, -6});
        cross("restore", full(), (y, a) -> y.restore(), new int[] {0, -6});
        cross("restore", x, (y, a) -> y.restore(), new int[] {0, 0});
    }

    private static void looks() {
        Face x = furnished();
        Checks.says("Promise 17, thingOf: -5: no such one, another what.");
        cross("thingOf", x, (y, a) -> y.thingOf(a[0], a[1]), range(-5, 0, 2), range(-5, 0, 4));
        Checks.says("Promise 18, deviceOf: -5: no such one, another what.");
        cross("deviceOf", x, (y, a) -> y.deviceOf(a[0], a[1]), range(-5, 0, 2), range(-5, 0, 5));
        cross("thingOf", Watch.fresh(), (y, a) -> y.thingOf(0, a[0]), new int[] {0, -5});
        cross("deviceOf", Watch.fresh(), (y, a) -> y.deviceOf(0, a[0]), new int[] {0, -5});
        Checks.says("Promise 21, bars: -5 another what; -6.");
        cross("bars", x, (y, a) -> y.bars(a[0], a[1], a[2]), range(-6, 0, 1), cell(-6), range(-5, 0, 2));
        cross("bars", Watch.fresh(), (y, a) -> y.bars(1, a[0], a[1]), new int[] {0, 0, 4, -6, -1, -6}, range(-5, 0, 2));
        Checks.says("Promise 22, way: -5 another what; -6.");
        cross("way", x, (y, a) -> y.way(a[0], a[1], a[2]), cell(-6), cell(-6), range(-5, 0, 1));
        Checks.says("Promise 23, hum: -5 another what; -6.");
        cross("hum", x, (y, a) -> y.hum(a[0], a[1]), cell(-6), range(-5, 0, 1));
        Checks.says("Promise 24, filled: -5 another what.");
        cross("filled", x, (y, a) -> y.filled(a[0]), range(-5, 0, 1));
        Checks.says("Promise 25, put: -5 another what.");
        cross("put", x, (y, a) -> y.put(a[0]), range(-5, 0, 2));
        Checks.says("Promise 28, goesTo: -1; -6.");
        cross("goesTo", x, (y, a) -> y.goesTo(a[0], a[1]), range(-1, 0, 1), range(-6, 0, 20));
        cross("goesTo", Watch.fresh(), (y, a) -> y.goesTo(0, a[0]), new int[] {0, -1, 21, -1});
        Checks.says("Promise 31, count: -6.");
        cross("count", x, (y, a) -> y.count(a[0]), range(-6, 0, 5));
        Checks.says("Promise 34, near: -16 (counted as -6).");
        cross("near", x, 10, (y, a) -> y.near(a[0], a[1]), cell(-6), range(-6, 0, 5));
        Checks.says("Promise 36, blame: -6.");
        cross("blame", x, (y, a) -> y.blame(a[0]), cell(-6));
        Checks.says("Promise 39, evening: -6.");
        cross("evening", x, (y, a) -> y.evening(a[0], a[1]), range(-6, 1, 60), range(-6, 0, 4));
        Checks.says("Promise 40, weeks: -6.");
        cross("weeks", x, (y, a) -> y.weeks(a[0]), range(-6, 1, 60));
    }

    /** Shelf 0: (0, 5), (33, 3); 1: a walk of 5, then far off; 2: 81 of 0; 5: 82 of 0; 3: a THING; 4: NOTHING. */
    private static Face told() {
        Face x = Watch.fresh();
        x.thing(0, 0, 0);
        x.show(3, 0);
        Checks.fill(x, 0, 2, 0, 5, 33, 3);
        Checks.fill(x, 1, 3, 0, 1, 11, 21, 21, 33);
        x.row(2, 2, 81);
        x.row(5, 2, 82);
        return x;
    }

    private static int shelfDue(int s) {
        return s < 0 || s > 7 ? -1 : s == 3 ? -2 : s == 4 ? -3 : 0;
    }

    private static int toldDue(int s, int n, int each) {
        int[] sizes = {4, 6, 81, 0, 0, 82};
        if (shelfDue(s) != 0) {
            return shelfDue(s);
        }
        if (n < 0) {
            return -4;
        }
        if ((long) n * each > sizes[s]) {
            return -5;
        }
        return n > 40 ? -6 : 0;
    }

    private static void measures() {
        Face x = told();
        int[] shelves = {LOW, -1, 8, HIGH, 3, 4, 0, 2, 5};
        int[] many = {LOW, -1, 0, 1, 2, 3, 40, 41, 42, 1 << 30, (1 << 30) + 1, HIGH};
        for (int s : shelves) {
            for (int n : many) {
                Checks.says("Promise 32, fits: -1; -2; -3; -4 n; -5 fewer elements, no such i; "
                    + "-6 n above 40, no CELL, no BARS (0 to 5).");
                int code = toldDue(s, n, 2);
                int fit = n == 0 ? 16 : s == 0 ? 1 : 0;
                for (int i : new int[] {LOW, -2, -1, 0, 1, 15, 16, HIGH}) {
                    int own = i == -1 || i >= 0 && i < fit ? 0 : -5;
                    one("fits", x, (y, a) -> y.fits(a[0], a[1], a[2]), 0, code == 0 ? own : code, s, n, i);
                }
                Checks.says("Promise 33, next: -11; -12; -13; -14; -15; -16 (counted as -1 to -6).");
                one("next", x, (y, a) -> y.next(a[0], a[1]), 10, code, s, n);
            }
        }
        Checks.says("-6 no CELL, no BARS (0 to 5); no such i is looked at only if the pairs may be; else it is -6");
        int[][] pairs = {{-1, 0}, {4, 0}, {34, 3}, {40, 3}, {0, -1}, {0, 6}, {LOW, 0}, {0, HIGH}, {4, 6}};
        for (int[] pair : pairs) {
            for (int at = 0; at < 2; at++) {
                Face y = told();
                y.set(0, 2 * at, pair[0]);
                y.set(0, 2 * at + 1, pair[1]);
                for (int n = at; n <= 3; n++) {
                    int code = n > 2 ? -5 : n > at ? -6 : 0;
                    one("fits", y, (z, a) -> z.fits(a[0], a[1], a[2]), 0, code, 0, n, -1);
                    one("fits", y, (z, a) -> z.fits(a[0], a[1], a[2]), 0, code == 0 ? -5 : code, 0, n, 99);
                    one("next", y, (z, a) -> z.next(a[0], a[1]), 10, code, 0, n);
                }
            }
        }
    }

    private static void walks() {
        Face x = told();
        int[] shelves = {LOW, -1, 8, HIGH, 3, 4, 1, 2};
        for (int s : shelves) {
            for (int n : new int[] {LOW, -1, 0, 1, 5, 6, 7, 40, 41, 81, 82, HIGH}) {
                int code = toldDue(s, n, 1);
                Checks.says("Promise 37, judge: -11; -12; -13; -14 n; -15 fewer elements; -16 n above 40 (counted as -1 to -6).");
                one("judge", x, (y, a) -> y.judge(a[0], a[1]), 10, code, s, n);
                Checks.says("Promise 38, hops: -1; -2; -3; -4; -5; -6 also if it is WRONG, another rule.");
                for (int rule : new int[] {LOW, -2, -1, 0, 4, 5, HIGH}) {
                    int own = rule < -1 || rule > 4 || s == 1 && n == 6 ? -6 : 0;
                    one("hops", x, (y, a) -> y.hops(a[0], a[1], a[2]), 0, code == 0 ? own : code, s, n, rule);
                }
            }
        }
    }

    /** Calls that only tell change nothing, whatever they answer; NONE that is an answer isn't counted. */
    private static void tellers() {
        Checks.says("3. WHAT COMES OF IT (nothing is changed)");
        Face x = furnished();
        for (int odd : new int[] {LOW, -1, 0, 1, 7, 8, 160, HIGH}) {
            Checks.onlyTells("element", x, y -> (int) y.element(odd, odd), odd == 0 ? 7 : odd == 1 ? 2 : 0);
            Checks.onlyTells("element of 0, " + odd, x, y -> (int) y.element(0, odd), odd == 0 ? 7 : odd == 1 ? 8 : 0);
            Checks.onlyTells("holds", x, y -> y.holds(odd), odd == 0 ? 102 : odd == 1 ? 103 : -1);
            Checks.onlyTells("trace", x, y -> y.trace(odd), odd == 0 ? 12 : odd == 1 ? 40 : -1);
            Checks.onlyTells("status", x, y -> y.status(odd), odd == 0 ? 3 : odd == 1 ? 5 : odd == 7 ? 0 : odd == 8 ? 21 : -1);
        }
        Checks.onlyTells("fault", x, Face::fault, 3);
        Checks.onlyTells("channel", x, Face::channel, 1);
        Checks.onlyTells("rests", x, Face::rests, 1);
        Checks.onlyTells("goesTo", x, y -> y.goesTo(0, 20), 1);
        Checks.onlyTells("moved", x, Face::moved, 0);
        Checks.onlyTells("moved, no things", Watch.fresh(), Face::moved, -1);
        Checks.onlyTells("doors", x, Face::doors, 0);
        Checks.onlyTells("minute", x, Face::minute, 58);
        Checks.onlyTells("put 0", x, y -> y.put(0), 0);
        Checks.onlyTells("put 1", x, y -> y.put(1), 0);
        Checks.onlyTells("put 2", x, y -> y.put(2), 0);
        Checks.onlyTells("near", x, y -> y.near(0, 5), -1);
        Checks.onlyTells("filled", x, y -> y.filled(1), 49);
        Face z = told();
        Checks.onlyTells("next", z, y -> y.next(0, 1), -1);
        Checks.onlyTells("judge", z, y -> y.judge(1, 5), -1);
        Checks.onlyTells("fits", z, y -> y.fits(0, 0, -1), 16);
        Checks.onlyTells("hops", z, y -> y.hops(1, 5, -1), 4);
    }

    public static void main(String[] args) {
        shelves();
        copies();
        house();
        looks();
        measures();
        walks();
        tellers();
        Checks.end("RefusalTest");
    }
}
