import java.util.ArrayList;
import java.util.Arrays;
import java.util.List;

/**
 * The document again, word by word and with no thought of cost: ways are walked cell by cell, what-ifs are
 * tried on whole copies. ModelTest holds the class against it.
 */
final class Plain {
    static final int NONE = -1;
    private static final int[] UP = {-1, 0, 0, 1, 0, 2, 4};

    static final class Thing {
        int kind, a, cell;
        boolean shut = true;
    }

    static final class Device {
        int cell, want, worth, box;
    }

    static final class Neighbour {
        int channel, noise;
    }

    static final class State {
        int side = 4, power = 50, channel = 6, minute = 0, seed = 1;
        int[] boxes = {0, NONE};
        List<Thing> things = new ArrayList<>();
        List<Device> devices = new ArrayList<>();
        List<Neighbour> neighbours = new ArrayList<>();

        State twin() {
            State t = new State();
            t.side = side;
            t.power = power;
            t.channel = channel;
            t.minute = minute;
            t.seed = seed;
            t.boxes = boxes.clone();
            for (Thing o : things) {
                t.addThing(o.kind, o.a, o.cell).shut = o.shut;
            }
            for (Device o : devices) {
                t.addDevice(o.cell, o.want, o.worth).box = o.box;
            }
            for (Neighbour o : neighbours) {
                t.addNeighbour(o.channel, o.noise);
            }
            return t;
        }

        Thing addThing(int kind, int a, int cell) {
            Thing o = new Thing();
            o.kind = kind;
            o.a = a;
            o.cell = cell;
            things.add(o);
            return o;
        }

        Device addDevice(int cell, int want, int worth) {
            Device o = new Device();
            o.cell = cell;
            o.want = want;
            o.worth = worth;
            devices.add(o);
            return o;
        }

        Neighbour addNeighbour(int channel, int noise) {
            Neighbour o = new Neighbour();
            o.channel = channel;
            o.noise = noise;
            neighbours.add(o);
            return o;
        }

        boolean cell(int c) {
            return c >= 0 && c / 10 < side && c % 10 < side;
        }

        List<Integer> cells() {
            List<Integer> all = new ArrayList<>();
            for (int r = 0; r < side; r++) {
                for (int c = 0; c < side; c++) {
                    all.add(10 * r + c);
                }
            }
            return all;
        }

        int lossOf(Thing o) {
            if (o.kind == 0) return o.a;
            if (o.kind == 1) return o.a + 3;
            if (o.kind == 3) return (o.a + 3) * 2;
            if (o.kind == 2) return o.shut ? o.a : 0;
            if (o.kind == 5) return (o.shut ? o.a : 0) / 2;
            return 0;
        }

        int lossAt(int cell) {
            int sum = 0;
            for (Thing o : things) {
                if (o.cell == cell) sum += lossOf(o);
            }
            return sum;
        }

        int walk(int from, int to, boolean rowFirst) {
            int r = from / 10, c = from % 10, sum = 0;
            while (r != to / 10 || c != to % 10) {
                boolean sideways = rowFirst ? c != to % 10 : r == to / 10;
                if (sideways) {
                    c += c < to % 10 ? 1 : -1;
                } else {
                    r += r < to / 10 ? 1 : -1;
                }
                sum += lossAt(10 * r + c);
            }
            return sum;
        }

        int way(int from, int to) {
            return Math.min(walk(from, to, true), walk(from, to, false));
        }

        int far(int from, int to) {
            return Math.abs(from / 10 - to / 10) + Math.abs(from % 10 - to % 10);
        }

        int humOf(Thing o, int cell) {
            if (o.kind == 4 && minute % 10 < o.a) return Math.max(0, 20 - 5 * far(o.cell, cell));
            if (o.kind == 6) return Math.max(0, 10 - 5 * far(o.cell, cell));
            return 0;
        }

        int humAt(int cell) {
            int sum = 0;
            for (Thing o : things) {
                sum += humOf(o, cell);
            }
            return sum;
        }

        int din(int on) {
            int sum = 0;
            for (Neighbour o : neighbours) {
                sum += o.noise * Math.max(0, 5 - Math.abs(o.channel - on)) / 5;
            }
            return sum;
        }

        int strength(int box, int cell) {
            if (boxes[box] == NONE) return 0;
            int from = boxes[box];
            int s = power - 2 * far(from, cell) - way(from, cell) - humAt(cell) - din(channel);
            return Math.max(0, s);
        }

        int bars(int box, int cell) {
            return Math.min(5, strength(box, cell) / 10);
        }

        int pace(int box, int cell) {
            if (box == 0) return bars(0, cell);
            if (boxes[1] == NONE) return 0;
            return Math.min(bars(1, cell) / 2, bars(0, boxes[1]));
        }

        int filled() {
            int sum = 0;
            for (Device o : devices) {
                if (pace(o.box, o.cell) >= o.want) sum += o.worth;
            }
            return sum;
        }

        int served() {
            int sum = 0;
            for (Device o : devices) {
                if (Math.max(pace(0, o.cell), pace(1, o.cell)) >= o.want) sum += o.worth;
            }
            return sum;
        }

        int lets(int box, int cell, int n) {
            int own = bars(box, cell), other = bars(1 - box, cell);
            return own <= n && other > own ? 1 - box : box;
        }

        void pass(int rule) {
            minute = (minute + 1) % 60;
            for (Device o : devices) {
                o.box = lets(o.box, o.cell, rule);
            }
        }

        int draw(int n) {
            seed = seed * 1103515245 + 12345;
            return (seed >>> 16) % n;
        }

        boolean round() {
            boolean any = false;
            for (Neighbour o : neighbours) {
                int here = 0, least = Integer.MAX_VALUE, best = 0;
                for (int on = 1; on <= 13; on++) {
                    int made = 10 * Math.max(0, 5 - Math.abs(channel - on)) / 5;
                    for (Neighbour p : neighbours) {
                        if (p != o) made += p.noise * Math.max(0, 5 - Math.abs(p.channel - on)) / 5;
                    }
                    if (on == o.channel) here = made;
                    if (made < least) {
                        least = made;
                        best = on;
                    }
                }
                if (least < here) {
                    o.channel = best;
                    any = true;
                }
            }
            return any;
        }
    }

    State st = new State();
    private State kept;
    // A shelf: null, an Integer (a thing), or a Row.
    private final Object[] shelves = new Object[8];
    private final int[] refused = new int[8];
    private int faultAt = NONE;
    private final List<Integer> ran = new ArrayList<>();

    private static final class Row {
        int sort;
        long[] e;
    }

    private int no(int code) {
        refused[code < -10 ? -code - 10 : -code]++;
        return code;
    }

    private boolean shelf(int s) {
        return s >= 0 && s < 8;
    }

    int row(int s, int sort, int n) {
        if (!shelf(s)) return no(-1);
        if (n < 0) return no(-4);
        if (sort < 0 || sort > 3) return no(-6);
        if (n > 160) return no(-7);
        Row r = new Row();
        r.sort = sort;
        r.e = new long[n];
        shelves[s] = r;
        return 1;
    }

    private int wantRow(int s) {
        if (!shelf(s)) return -1;
        if (shelves[s] instanceof Integer) return -2;
        return shelves[s] == null ? -3 : 0;
    }

    int set(int s, int i, long v) {
        if (wantRow(s) != 0) return no(wantRow(s));
        Row r = (Row) shelves[s];
        if (i < 0 || i >= r.e.length) return no(-5);
        r.e[i] = r.sort == 0 ? (byte) v : r.sort == 1 ? (short) v : r.sort == 2 ? (int) v : v;
        return 1;
    }

    int copy(int p, int q, int i, int j, int n) {
        if (!shelf(p) || !shelf(q)) return no(-1);
        Object a = shelves[p], b = shelves[q];
        if (a instanceof Integer || b instanceof Integer) return no(-2);
        if (a != null && b != null && ((Row) a).sort != ((Row) b).sort) return no(-2);
        if (a == null || b == null) return no(-3);
        if (n < 0) return no(-4);
        long[] from = ((Row) a).e.clone(), to = ((Row) b).e;
        if (i < 0 || j < 0 || (long) i + n > from.length || (long) j + n > to.length) return no(-5);
        for (int k = 0; k < n; k++) {
            to[j + k] = from[i + k];
        }
        return 1;
    }

    long element(int s, int i) {
        if (!shelf(s) || !(shelves[s] instanceof Row)) return 0;
        long[] e = ((Row) shelves[s]).e;
        return i < 0 || i >= e.length ? 0 : e[i];
    }

    int show(int s, int thing) {
        if (!shelf(s)) return no(-1);
        if (thing == NONE) {
            shelves[s] = null;
            return 0;
        }
        if (thing < 0 || thing >= st.things.size()) return no(-1);
        shelves[s] = thing;
        return 1;
    }

    int holds(int s) {
        if (!shelf(s) || shelves[s] == null) return NONE;
        return shelves[s] instanceof Integer ? (Integer) shelves[s] : 100 + ((Row) shelves[s]).sort;
    }

    private boolean under(int kind, int asked) {
        for (int k = kind; k >= 0; k = UP[k]) {
            if (k == asked) return true;
        }
        return false;
    }

    int says(int s, int kind) {
        if (!shelf(s) || kind < 0 || kind > 6) return no(-1);
        if (shelves[s] instanceof Row) return no(-2);
        if (shelves[s] == null) return no(-3);
        Thing o = st.things.get((Integer) shelves[s]);
        if (!under(o.kind, kind)) return no(-2);
        if (kind == 0) return o.cell;
        if (kind == 2) return o.shut ? 1 : 0;
        if (kind == 4 || kind == 6) return st.humOf(o, o.cell);
        return st.lossOf(o);
    }

    int side(int n) {
        if (n < 2 || n > 8 || n < st.side) return no(-6);
        int was = st.side;
        st.side = n;
        return was;
    }

    int thing(int kind, int a, int cell) {
        if (kind < 0 || kind > 6) return no(-1);
        if (a < 0 || a > 9 || !st.cell(cell)) return no(-6);
        if (st.things.size() == 16) return no(-7);
        st.addThing(kind, a, cell);
        return st.things.size() - 1;
    }

    int neighbour(int channel, int noise) {
        if (channel < 1 || channel > 13 || noise < 0 || noise > 20) return no(-6);
        if (st.neighbours.size() == 8) return no(-7);
        st.addNeighbour(channel, noise);
        return st.neighbours.size() - 1;
    }

    int device(int cell, int want, int worth) {
        if (!st.cell(cell) || want < 1 || want > 5 || worth < 1 || worth > 99) return no(-6);
        if (st.devices.size() == 6) return no(-7);
        st.addDevice(cell, want, worth);
        return st.devices.size() - 1;
    }

    int box(int box, int cell) {
        if (box < 0 || box > 1) return no(-16);
        if (!st.cell(cell) && !(box == 1 && cell == NONE)) return no(-16);
        int was = st.boxes[box];
        st.boxes[box] = cell;
        return was;
    }

    int ask(int what, int v) {
        int was;
        if (what == 0 && v >= 10 && v <= 60) {
            was = st.power;
            st.power = v;
        } else if (what == 1 && v >= 1 && v <= 13) {
            was = st.channel;
            st.channel = v;
        } else if (what == 2 && v >= 0 && v <= 59) {
            was = st.minute;
            st.minute = v;
        } else {
            return no(-6);
        }
        return was;
    }

    private boolean isThing(int thing) {
        return thing >= 0 && thing < st.things.size();
    }

    int shut(int thing, boolean is) {
        if (!isThing(thing)) return no(-1);
        boolean was = st.things.get(thing).shut;
        st.things.get(thing).shut = is;
        return was ? 1 : 0;
    }

    int move(int thing, int cell) {
        if (!isThing(thing)) return no(-1);
        if (!st.cell(cell)) return no(-6);
        int was = st.things.get(thing).cell;
        st.things.get(thing).cell = cell;
        return was;
    }

    int thingOf(int thing, int what) {
        if (!isThing(thing) || what < 0 || what > 4) return no(-5);
        Thing o = st.things.get(thing);
        return new int[] {o.kind, o.a, o.cell, o.shut ? 1 : 0, st.lossOf(o)}[what];
    }

    int deviceOf(int device, int what) {
        if (device < 0 || device >= st.devices.size() || what < 0 || what > 5) return no(-5);
        Device o = st.devices.get(device);
        int best = Math.max(st.pace(0, o.cell), st.pace(1, o.cell));
        return new int[] {o.cell, o.want, o.worth, o.box, st.pace(o.box, o.cell), best}[what];
    }

    // Texts: what may stand behind each word, and how much room is left for it.
    private static final String[] WORDS = {
        "side s", "thing kac", "box bc", "power p", "channel h", "neighbour hn", "device cwv", "open t", "shut t",
        "minute m"};

    private boolean may(State d, char sort, int v) {
        switch (sort) {
            case 's': return v >= 2 && v <= 8 && v >= d.side;
            case 'k': return v <= 6;
            case 'a': return v <= 9;
            case 'c': return d.cell(v);
            case 'b': return v <= 1;
            case 'p': return v >= 10 && v <= 60;
            case 'h': return v >= 1 && v <= 13;
            case 'n': return v <= 20;
            case 'w': return v >= 1 && v <= 5;
            case 'v': return v >= 1 && v <= 99;
            case 't': return v < d.things.size();
            default: return v <= 59;
        }
    }

    private boolean full(State d, String word) {
        return word.equals("thing") && d.things.size() == 16
            || word.equals("neighbour") && d.neighbours.size() == 8
            || word.equals("device") && d.devices.size() == 6;
    }

    private void tell(State d, String word, List<Integer> n) {
        switch (word) {
            case "side": d.side = n.get(0); break;
            case "thing": d.addThing(n.get(0), n.get(1), n.get(2)); break;
            case "box": d.boxes[n.get(0)] = n.get(1); break;
            case "power": d.power = n.get(0); break;
            case "channel": d.channel = n.get(0); break;
            case "neighbour": d.addNeighbour(n.get(0), n.get(1)); break;
            case "device": d.addDevice(n.get(0), n.get(1), n.get(2)); break;
            case "open": d.things.get(n.get(0)).shut = false; break;
            case "shut": d.things.get(n.get(0)).shut = true; break;
            default: d.minute = n.get(0);
        }
    }

    int house(int s) {
        if (wantRow(s) != 0) return no(wantRow(s));
        StringBuilder b = new StringBuilder();
        for (long v : ((Row) shelves[s]).e) {
            int e = (int) v;
            b.append(e >= 32 && e < 127 ? (char) e : (char) 1);
        }
        String t = b.toString();
        State d = st.twin();
        int at = 0, items = 0;
        while (true) {
            int start = at;
            String word = null, sorts = null;
            while (word == null) {
                String seen = t.substring(start, at);
                boolean some = false;
                for (String w : WORDS) {
                    String letters = w.substring(0, w.indexOf(' '));
                    some |= letters.startsWith(seen);
                    if (letters.equals(seen)) {
                        word = letters;
                        sorts = w.substring(w.indexOf(' ') + 1);
                    }
                }
                if (!some) return badText(at - 1);
                if (word == null && at == t.length()) return badText(at);
                if (word == null) at++;
            }
            if (full(d, word)) return badText(start);
            List<Integer> numbers = new ArrayList<>();
            for (char sort : sorts.toCharArray()) {
                if (at == t.length() || t.charAt(at) != ' ') return badText(at);
                at++;
                int end = at;
                while (end < t.length() && end < at + 2 && Character.isDigit(t.charAt(end))) end++;
                if (end == at || !may(d, sort, Integer.parseInt(t.substring(at, end)))) return badText(at);
                numbers.add(Integer.parseInt(t.substring(at, end)));
                at = end;
            }
            tell(d, word, numbers);
            items++;
            if (at == t.length()) break;
            if (t.charAt(at) != ';') return badText(at);
            at++;
        }
        faultAt = NONE;
        st = d;
        return items;
    }

    private int badText(int at) {
        faultAt = at;
        return no(-6);
    }

    int fault() {
        return faultAt;
    }

    int bars(int box, int cell, int what) {
        if (what < 0 || what > 2) return no(-5);
        if (box < 0 || box > 1 || !st.cell(cell)) return no(-6);
        return what == 0 ? st.strength(box, cell) : what == 1 ? st.bars(box, cell) : st.pace(box, cell);
    }

    int way(int cell, int other, int what) {
        if (what < 0 || what > 1) return no(-5);
        if (!st.cell(cell) || !st.cell(other)) return no(-6);
        return what == 0 ? st.far(cell, other) : st.way(cell, other);
    }

    int hum(int cell, int what) {
        if (what < 0 || what > 1) return no(-5);
        if (!st.cell(cell)) return no(-6);
        return what == 0 ? st.humAt(cell) : st.din(st.channel);
    }

    int filled(int what) {
        if (what < 0 || what > 1) return no(-5);
        return what == 0 ? st.filled() : st.served();
    }

    int put(int what) {
        if (what < 0 || what > 2) return no(-5);
        int best = 0, most = -1;
        State t = st.twin();
        for (int c0 : what == 1 ? Arrays.asList(t.boxes[0]) : t.cells()) {
            for (int c1 : what == 0 ? Arrays.asList(st.boxes[1]) : t.cells()) {
                t.boxes[0] = c0;
                t.boxes[1] = c1;
                if (t.served() > most) {
                    most = t.served();
                    best = what == 0 ? c0 : what == 1 ? c1 : 100 * c0 + c1;
                }
            }
        }
        return best;
    }

    int channel() {
        int best = 1;
        for (int on = 1; on <= 13; on++) {
            if (st.din(on) < st.din(best)) best = on;
        }
        return best;
    }

    int rests() {
        State t = st.twin();
        int rounds = 0;
        while (t.round()) {
            rounds++;
            if (rounds == 20) return NONE;
        }
        return rounds;
    }

    int goesTo(int neighbour, int n) {
        if (neighbour < 0 || neighbour >= st.neighbours.size()) return no(-1);
        if (n < 0 || n > 20) return no(-6);
        State t = st.twin();
        for (int k = 0; k < n; k++) {
            t.round();
        }
        return t.neighbours.get(neighbour).channel;
    }

    int moved() {
        int best = NONE, most = -1;
        for (int i = 0; i < st.things.size(); i++) {
            State t = st.twin();
            t.things.remove(i);
            if (t.served() > most) {
                most = t.served();
                best = i;
            }
        }
        return best;
    }

    int doors() {
        List<Integer> some = new ArrayList<>();
        for (int i = 0; i < st.things.size() && some.size() < 8; i++) {
            int kind = st.things.get(i).kind;
            if (kind == 2 || kind == 5) some.add(i);
        }
        int best = 0, most = -1;
        State t = st.twin();
        for (int bits = 0; bits < 1 << some.size(); bits++) {
            for (int k = 0; k < some.size(); k++) {
                t.things.get(some.get(k)).shut = (bits & 1 << k) != 0;
            }
            if (t.served() > most) {
                most = t.served();
                best = bits;
            }
        }
        return best;
    }

    int count(int n) {
        if (n < 0 || n > 5) return no(-6);
        int many = 0;
        for (int c : st.cells()) {
            if (Math.max(st.bars(0, c), st.bars(1, c)) >= n) many++;
        }
        return many;
    }

    private int told(int s, int n, int each) {
        if (wantRow(s) != 0) return wantRow(s);
        if (n < 0) return -4;
        Row r = (Row) shelves[s];
        if ((long) n * each > r.e.length) return -5;
        if (n > 40) return -6;
        for (int k = 0; k < n && each == 2; k++) {
            int bars = (int) r.e[2 * k + 1];
            if (!st.cell((int) r.e[2 * k]) || bars < 0 || bars > 5) return -6;
        }
        return 0;
    }

    private List<Integer> fitting(int s, int n) {
        Row r = (Row) shelves[s];
        List<Integer> some = new ArrayList<>();
        State t = st.twin();
        for (int c : t.cells()) {
            t.boxes[0] = c;
            boolean ok = true;
            for (int k = 0; k < n; k++) {
                ok &= t.bars(0, (int) r.e[2 * k]) == (int) r.e[2 * k + 1];
            }
            if (ok) some.add(c);
        }
        return some;
    }

    int fits(int s, int n, int i) {
        if (told(s, n, 2) != 0) return no(told(s, n, 2));
        List<Integer> some = fitting(s, n);
        if (i == NONE) return some.size();
        return i < 0 || i >= some.size() ? no(-5) : some.get(i);
    }

    int next(int s, int n) {
        if (told(s, n, 2) != 0) return no(told(s, n, 2) - 10);
        List<Integer> some = fitting(s, n);
        if (some.size() < 2) return NONE;
        int best = NONE, fewest = Integer.MAX_VALUE;
        State t = st.twin();
        for (int c : t.cells()) {
            int[] left = new int[6];
            for (int from : some) {
                t.boxes[0] = from;
                left[t.bars(0, c)]++;
            }
            int worst = Arrays.stream(left).max().getAsInt();
            if (worst < fewest) {
                fewest = worst;
                best = c;
            }
        }
        return best;
    }

    int near(int cell, int n) {
        if (!st.cell(cell) || n < 0 || n > 5) return no(-16);
        int least = NONE;
        for (int c : st.cells()) {
            if (Math.max(st.bars(0, c), st.bars(1, c)) >= n && (least == NONE || st.far(cell, c) < least)) {
                least = st.far(cell, c);
            }
        }
        return least;
    }

    int minute() {
        State t = st.twin();
        int best = NONE, most = -1;
        for (int k = 0; k < 60; k++) {
            t.minute = (st.minute + k) % 60;
            if (t.served() > most) {
                most = t.served();
                best = t.minute;
            }
        }
        return best;
    }

    int blame(int cell) {
        if (!st.cell(cell)) return no(-6);
        int from = st.boxes[0];
        int[] lost = {2 * st.far(from, cell), st.way(from, cell), st.humAt(cell), st.din(st.channel)};
        int best = 0;
        for (int k = 1; k < 4; k++) {
            if (lost[k] > lost[best]) best = k;
        }
        return best;
    }

    private int wrong(int s, int n) {
        Row r = (Row) shelves[s];
        for (int k = 0; k < n; k++) {
            if (!st.cell((int) r.e[k])) return k;
            if (k > 0 && st.far((int) r.e[k - 1], (int) r.e[k]) > 1) return k;
        }
        return NONE;
    }

    int judge(int s, int n) {
        int code = told(s, n, 1);
        return code != 0 ? no(code - 10) : wrong(s, n);
    }

    private int hopsBy(int s, int n, int rule) {
        int box = 0, many = 0;
        for (int k = 0; k < n; k++) {
            int then = st.lets(box, (int) ((Row) shelves[s]).e[k], rule);
            many += then == box ? 0 : 1;
            box = then;
        }
        return many;
    }

    int hops(int s, int n, int rule) {
        int code = told(s, n, 1);
        if (code != 0) return no(code);
        if (rule < -1 || rule > 4 || wrong(s, n) != NONE) return no(-6);
        if (rule != NONE) return hopsBy(s, n, rule);
        int calm = 4;
        for (int k = 3; k >= 0; k--) {
            if (hopsBy(s, n, k) < hopsBy(s, n, calm)) calm = k;
        }
        return calm;
    }

    int evening(int n, int rule) {
        if (n < 1 || n > 60 || rule < 0 || rule > 4) return no(-6);
        for (int k = 0; k < n; k++) {
            st.pass(rule);
        }
        return st.filled();
    }

    int weeks(int n) {
        if (n < 1 || n > 60) return no(-6);
        int sum = 0;
        for (int k = 0; k < n; k++) {
            int what = st.draw(4);
            if (what == 0 && !st.devices.isEmpty()) {
                Device o = st.devices.get(st.draw(st.devices.size()));
                int r = st.draw(st.side);
                o.cell = 10 * r + st.draw(st.side);
            } else if (what == 1 && !st.things.isEmpty()) {
                Thing o = st.things.get(st.draw(st.things.size()));
                o.shut = !o.shut;
            } else if (what == 2 && !st.neighbours.isEmpty()) {
                Neighbour o = st.neighbours.get(st.draw(st.neighbours.size()));
                o.channel = 1 + st.draw(13);
            }
            st.pass(1);
            sum += st.filled();
        }
        return sum;
    }

    int seed(int v) {
        int was = st.seed;
        st.seed = v;
        return was;
    }

    // The moves by Java's own dispatch.
    private class Base {
        int m, k;

        int stands(int x) {
            ran.add(10);
            return x + m;
        }

        int takes(int x) {
            ran.add(11);
            return stands(x) * 2;
        }

        int hums(int x) {
            ran.add(12);
            return takes(x) ^ stands(x - k);
        }
    }

    private class Wall extends Base {
        @Override int stands(int x) {
            ran.add(20);
            return super.stands(x) + k;
        }
    }

    private class Door extends Base {
        @Override int takes(int x) {
            ran.add(30);
            return super.takes(x) * 3;
        }
    }

    private class Old extends Wall {
        @Override int takes(int x) {
            ran.add(40);
            return super.takes(x + 1);
        }
    }

    private class Oven extends Base {
        @Override int hums(int x) {
            ran.add(50);
            return -super.hums(x);
        }

        @Override int stands(int x) {
            ran.add(51);
            return super.stands(x) - m;
        }
    }

    private class Glass extends Door {
        @Override int hums(int x) {
            ran.add(60);
            return super.hums(x) ^ 5;
        }
    }

    private class Cot extends Oven {
        @Override int stands(int x) {
            ran.add(70);
            return super.stands(x) * 2;
        }

        @Override int takes(int x) {
            ran.add(71);
            return super.takes(x - k);
        }
    }

    int act(int thing, int move, int x) {
        ran.clear();
        if (!isThing(thing) || move < 0 || move > 2) return 0;
        Base[] bodies = {new Base(), new Wall(), new Door(), new Old(), new Oven(), new Glass(), new Cot()};
        Base b = bodies[st.things.get(thing).kind];
        b.m = thing;
        b.k = st.things.get(thing).a;
        return move == 0 ? b.stands(x) : move == 1 ? b.takes(x) : b.hums(x);
    }

    int trace(int i) {
        return i < 0 || i >= Math.min(20, ran.size()) ? NONE : ran.get(i);
    }

    int image() {
        kept = st.twin();
        return kept.things.size();
    }

    int restore() {
        if (kept == null) return no(-6);
        st = kept.twin();
        for (int s = 0; s < 8; s++) {
            if (shelves[s] instanceof Integer && (Integer) shelves[s] >= st.things.size()) shelves[s] = null;
        }
        return st.things.size();
    }

    int status(int what) {
        if (what >= 11 && what <= 17) return refused[what - 10];
        if (what < 0 || what > 10) return NONE;
        return new int[] {
            st.things.size(), st.side, st.neighbours.size(), st.devices.size(), st.power, st.channel, st.minute,
            st.boxes[0], st.boxes[1], st.seed, ran.size()}[what];
    }
}
