/** Runs of drawn calls on the class and on Plain, the document's plain form: every answer must be the same. */
public final class ModelTest {
    private static final int[] ODD = {
        Integer.MIN_VALUE, Integer.MIN_VALUE + 1, -1000000, -17, -2, -1, 0, 1, 7, 8, 10, 16, 40, 41, 60, 61, 77, 80, 88,
        99, 160, 161, 1 << 16, 1 << 30, Integer.MAX_VALUE - 1, Integer.MAX_VALUE};
    private static final String[] WORDS = {
        "side", "thing", "box", "power", "channel", "neighbour", "device", "open", "shut", "minute"};

    // A step takes fewer calls than this.
    private static final int STEP = 300;

    private final Face x = Watch.fresh();
    private final Plain y = new Plain();
    private final int run;
    private final int odd;
    private int seed;
    private int calls = 0;

    private ModelTest(int run) {
        this.run = run;
        this.seed = run * 7919 + 11;
        this.odd = run % 3 == 0 ? 5 : 60;
    }

    private int draw(int n) {
        seed = seed * 1664525 + 1013904223;
        return (int) ((seed >>> 8 & 0xFFFFFFL) % n);
    }

    /** From low to high, now and then something odd. */
    private int some(int low, int high) {
        if (draw(odd) == 0) {
            return draw(2) == 0 ? ODD[draw(ODD.length)] : low - 1 + draw(high - low + 3);
        }
        return low + draw(high - low + 1);
    }

    private int cell() {
        if (draw(odd) == 0) {
            return some(-2, 90);
        }
        int side = x.status(1);
        return 10 * draw(side) + draw(side);
    }

    private void same(String call, long got, long want) {
        calls++;
        Checks.due("run " + run + ", call " + calls + ": " + call, got, want);
    }

    /** First some house, then calls of all sorts, as many as an object is used for. */
    private void goOn() {
        for (int i = run % 4 * 12; i > 0; i--) {
            build();
        }
        while (Watch.calls(x) + STEP <= Watch.MOST) {
            int what = draw(100);
            if (what < 12) {
                build();
            } else if (what < 24) {
                change();
            } else if (what < 40) {
                shelf();
            } else if (what < 52) {
                read();
            } else if (what < 80) {
                ask();
            } else if (what < 90) {
                told();
            } else {
                truth();
            }
        }
    }

    private void build() {
        int a = some(0, 6), b = some(0, 9), c = cell(), d = some(1, 13), e = some(0, 20), f = some(1, 5);
        int g = some(1, 99);
        int what = draw(20);
        if (what < 10) same("thing " + a + " " + b + " " + c, x.thing(a, b, c), y.thing(a, b, c));
        else if (what < 14) same("neighbour " + d + " " + e, x.neighbour(d, e), y.neighbour(d, e));
        else if (what < 19) same("device " + c + " " + f + " " + g, x.device(c, f, g), y.device(c, f, g));
        else same("side " + (g % 10), x.side(g % 10), y.side(g % 10));
    }

    private void change() {
        int t = some(0, Math.max(0, x.status(0) - 1)), c = cell(), b = some(0, 1), p = some(10, 60);
        switch (draw(9)) {
            case 0: same("box " + b + " " + c, x.box(b, c), y.box(b, c)); break;
            case 1: same("box 1 " + c, x.box(1, c), y.box(1, c)); break;
            case 2: same("box 1 none", x.box(b, -1), y.box(b, -1)); break;
            case 3: same("ask 0 " + p, x.ask(0, p), y.ask(0, p)); break;
            case 4: same("ask 1 " + (p % 14), x.ask(1, p % 14), y.ask(1, p % 14)); break;
            case 5: same("ask " + b + " " + p, x.ask(b + 1, p), y.ask(b + 1, p)); break;
            case 6: same("shut " + t, x.shut(t, b == 0), y.shut(t, b == 0)); break;
            case 7: same("move " + t + " " + c, x.move(t, c), y.move(t, c)); break;
            default: same("seed", x.seed(p * 77777), y.seed(p * 77777)); break;
        }
    }

    private void shelf() {
        int s = some(0, 7), q = some(0, 7), sort = some(0, 3), n = draw(3) == 0 ? some(0, 160) : some(0, 12);
        int i = some(0, 12), j = some(0, 12), k = some(0, 6), t = some(-1, x.status(0));
        long v = draw(3) == 0 ? (long) some(-9, 9) * 1234567890123L : some(-300, 300);
        switch (draw(8)) {
            case 0: same("row " + s + " " + sort + " " + n, x.row(s, sort, n), y.row(s, sort, n)); break;
            case 1:
            case 2: same("set " + s + " " + i, x.set(s, i, v), y.set(s, i, v)); break;
            case 3:
                String call = "copy " + s + " " + q + " " + i + " " + j + " " + k;
                same(call, x.copy(s, q, i, j, k), y.copy(s, q, i, j, k));
                break;
            case 4: same("show " + s + " " + t, x.show(s, t), y.show(s, t)); break;
            case 5: same("says " + s + " " + k, x.says(s, k), y.says(s, k)); break;
            case 6: same("copy " + s, x.copy(s, s, i, j, k), y.copy(s, s, i, j, k)); break;
            default: same("holds " + s, x.holds(s), y.holds(s)); break;
        }
        for (int e = 0; e < 14; e++) {
            same("element " + s + " " + e, x.element(s, e), y.element(s, e));
        }
    }

    private void fill(int s, int sort, String text) {
        same("row", x.row(s, sort, text.length()), y.row(s, sort, text.length()));
        for (int i = 0; i < text.length(); i++) {
            long high = sort == 3 && draw(4) == 0 ? (long) draw(99) << 32 : 0L;
            same("set", x.set(s, i, high + text.charAt(i)), y.set(s, i, high + text.charAt(i)));
        }
    }

    private void item(StringBuilder b) {
        int word = draw(4) == 0 ? draw(10) : draw(2) == 0 ? 1 : 6;
        b.append(WORDS[word]);
        int[][] tops = {{8}, {6, 9, 0}, {1, 0}, {60}, {13}, {13, 20}, {0, 5, 99}, {15}, {15}, {59}};
        boolean[][] cells = {
            {false}, {false, false, true}, {false, true}, {false}, {false}, {false, false}, {true, false, false},
            {false}, {false}, {false}};
        for (int i = 0; i < tops[word].length; i++) {
            int range = draw(3) == 0 ? tops[word][i] + 1 : Math.min(4, tops[word][i] + 1);
            int v = cells[word][i] ? cell() : tops[word][i] - draw(range);
            v = draw(25) == 0 ? draw(130) : v;
            b.append(' ');
            if (v < 10 && draw(5) == 0) {
                b.append('0');
            }
            b.append(v);
        }
    }

    private void read() {
        StringBuilder b = new StringBuilder();
        int items = 1 + draw(6);
        for (int i = 0; i < items; i++) {
            if (i > 0) {
                b.append(';');
            }
            item(b);
        }
        int spoil = draw(6);
        if (spoil == 0) b.setLength(draw(b.length() + 1));
        if (spoil == 1) b.setCharAt(draw(b.length()), "sthingbox 019;;".charAt(draw(15)));
        if (spoil == 2) b.insert(draw(b.length()), "sth o019;".charAt(draw(9)));
        if (spoil == 3) b.deleteCharAt(draw(b.length()));
        if (b.length() > 160) b.setLength(160);
        int s = draw(8);
        fill(s, draw(4), b.toString());
        same("house " + b, x.house(s), y.house(s));
        same("fault of " + b, x.fault(), y.fault());
        int other = some(0, 7);
        same("house in " + other, x.house(other), y.house(other));
        same("fault in " + other, x.fault(), y.fault());
    }

    private void ask() {
        int b = some(0, 1), c = cell(), d = cell(), what = some(0, 2), n = some(0, 5), r = some(0, 20);
        int t = some(0, 15), nb = some(0, 7), dv = some(0, 5);
        switch (draw(18)) {
            case 0:
            case 1: same("bars " + b + " " + c + " " + what, x.bars(b, c, what), y.bars(b, c, what)); break;
            case 2: same("way " + c + " " + d + " " + what, x.way(c, d, what), y.way(c, d, what)); break;
            case 3: same("way " + c + " " + d, x.way(c, d, 1), y.way(c, d, 1)); break;
            case 4: same("hum " + c + " " + what, x.hum(c, what), y.hum(c, what)); break;
            case 5: same("filled " + what, x.filled(what), y.filled(what)); break;
            case 6: same("put " + b, x.put(b), y.put(b)); break;
            case 7: if (draw(4) == 0) same("put " + what, x.put(what), y.put(what)); break;
            case 8: same("channel", x.channel(), y.channel()); break;
            case 9: same("rests", x.rests(), y.rests()); break;
            case 10: same("goesTo " + nb + " " + r, x.goesTo(nb, r), y.goesTo(nb, r)); break;
            case 11: same("moved", x.moved(), y.moved()); break;
            case 12: same("doors", x.doors(), y.doors()); break;
            case 13: same("count " + n, x.count(n), y.count(n)); break;
            case 14: same("near " + c + " " + n, x.near(c, n), y.near(c, n)); break;
            case 15: same("minute", x.minute(), y.minute()); break;
            case 16: same("blame " + c, x.blame(c), y.blame(c)); break;
            default:
                same("thingOf " + t + " " + n, x.thingOf(t, n), y.thingOf(t, n));
                same("deviceOf " + dv + " " + n, x.deviceOf(dv, n), y.deviceOf(dv, n));
                break;
        }
    }

    private void told() {
        int s = some(0, 7), sort = draw(4), n = draw(5) == 0 ? 40 + draw(3) : draw(12);
        boolean walk = draw(2) == 0;
        same("row", x.row(s, sort, 2 * n), y.row(s, sort, 2 * n));
        int at = cell();
        for (int i = 0; i < 2 * n; i++) {
            long v = at;
            if (!walk) {
                v = i % 2 == 0 ? cell() : some(0, 5);
                if (i % 2 == 1 && draw(6) != 0) {
                    int measured = (int) x.element(s, i - 1);
                    v = x.bars(0, measured, 1);
                    same("bars 0 " + measured, v, y.bars(0, measured, 1));
                }
            }
            int step = new int[] {0, 1, -1, 10, -10}[draw(5)];
            at = Math.max(0, Math.min(77, at + step));
            same("set", x.set(s, i, v), y.set(s, i, v));
        }
        int m = draw(8) == 0 ? some(0, 41) : n, i = draw(3) == 0 ? -1 : some(-1, 20), rule = some(-1, 4);
        same("fits " + s + " " + m + " " + i, x.fits(s, m, i), y.fits(s, m, i));
        same("next " + s + " " + m, x.next(s, m), y.next(s, m));
        int w = draw(6) == 0 ? some(0, 41) : Math.min(2 * n, 40);
        same("judge " + s + " " + w, x.judge(s, w), y.judge(s, w));
        same("hops " + s + " " + w + " " + rule, x.hops(s, w, rule), y.hops(s, w, rule));
        same("hops " + s + " " + w, x.hops(s, w, -1), y.hops(s, w, -1));
    }

    private void truth() {
        int n = some(1, 60), rule = some(0, 4), t = some(0, Math.max(0, x.status(0) - 1)), move = some(0, 2);
        int v = draw(2) == 0 ? some(-99, 99) : draw(1 << 24) * 999;
        switch (draw(6)) {
            case 0: same("evening " + n + " " + rule, x.evening(n, rule), y.evening(n, rule)); break;
            case 1: same("weeks " + n, x.weeks(n), y.weeks(n)); break;
            case 2: same("image", x.image(), y.image()); break;
            case 3: if (draw(3) == 0) same("restore", x.restore(), y.restore()); break;
            default:
                same("act " + t + " " + move + " " + v, x.act(t, move, v), y.act(t, move, v));
                for (int i = -1; i < 22; i++) {
                    same("trace " + i, x.trace(i), y.trace(i));
                }
                break;
        }
        for (int what = -1; what < 19; what++) {
            same("status " + what, x.status(what), y.status(what));
        }
        for (int i = 0; i < x.status(3); i++) {
            for (int what = 0; what < 6; what++) {
                same("deviceOf " + i + " " + what, x.deviceOf(i, what), y.deviceOf(i, what));
            }
        }
    }

    public static void main(String[] args) {
        int runs = args.length > 1 ? Integer.parseInt(args[1]) : 6000;
        for (int run = 0; run < runs; run++) {
            new ModelTest(run).goOn();
        }
        Checks.end("ModelTest");
    }
}
