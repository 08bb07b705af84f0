import java.util.Arrays;

/** A house of cells, what swallows and hums in it, its boxes, neighbours and devices, and what comes of them. */
public final class TwoBarsByTheWindow {
    public static final int NONE = -1;

    private static final int NOBODY = -1;
    private static final int OTHER = -2;
    private static final int NOTHING = -3;
    private static final int BELOW = -4;
    private static final int BEYOND = -5;
    private static final int WRONG = -6;
    private static final int ROOM = -7;
    // Where NONE is an answer of its own, refusals stand ten lower.
    private static final int APART = -10;

    private static final int SHELVES = 8;
    private static final int ELEMENTS = 160;
    private static final int THINGS = 16;
    private static final int NEIGHBOURS = 8;
    private static final int DEVICES = 6;
    // Cell numbers go to 77; rows kept by cell have a place for each number up to 79.
    private static final int PLACES = 80;
    private static final int MINUTES = 60;
    private static final int CHANNELS = 13;
    private static final int BARS = 5;
    private static final int RULES = 4;
    private static final int ROUNDS = 20;
    private static final int TOLD = 40;
    private static final int DOORS = 8;

    private static final int THING = 0;
    private static final int WALL = 1;
    private static final int DOOR = 2;
    private static final int OLD = 3;
    private static final int OVEN = 4;
    private static final int GLASS = 5;
    private static final int COT = 6;
    private static final int[] ABOVE = {0, 0, 0, 1, 0, 2, 4};

    // The sorts of numbers that the house knows, each with its least and its most.
    private static final int N_SIDE = 0;
    private static final int N_KIND = 1;
    private static final int N_A = 2;
    private static final int N_CELL = 3;
    private static final int N_BOX = 4;
    private static final int N_POWER = 5;
    private static final int N_CHANNEL = 6;
    private static final int N_NOISE = 7;
    private static final int N_WANT = 8;
    private static final int N_WORTH = 9;
    private static final int N_THING = 10;
    private static final int N_MINUTE = 11;
    private static final int N_BARS = 12;
    private static final int N_RULE = 13;
    private static final int[] LEAST = {2, 0, 0, 0, 0, 10, 1, 0, 1, 1, 0, 0, 0, 0};
    private static final int[] MOST = {8, 6, 9, 77, 1, 60, 13, 20, 5, 99, 15, 59, 5, 4};

    private final House now = new House();
    private final House kept = new House();
    private final House draft = new House();
    private final Air air = new Air(now);
    private final Plan plan = new Plan(now, draft);
    private final Search search = new Search(now, air);
    private final Rounds rounds = new Rounds(now);
    private final Reader reader = new Reader(draft);
    private final Play play = new Play();
    private final Shelf[] shelves = new Shelf[SHELVES];
    private final int[] refusals = new int[8];
    private boolean imaged = false;
    private int faultPlace = NONE;

    public TwoBarsByTheWindow() {
        for (int s = 0; s < shelves.length; s++) {
            shelves[s] = new Shelf();
        }
    }

    // ---- shelves ----

    public int row(int s, int sort, int n) {
        Shelf shelf = shelfAt(s);
        if (shelf == null) {
            return refuse(NOBODY);
        }
        if (n < 0) {
            return refuse(BELOW);
        }
        if (sort < 0 || sort > 3) {
            return refuse(WRONG);
        }
        if (n > ELEMENTS) {
            return refuse(ROOM);
        }
        shelf.layRow(sort, n);
        return 1;
    }

    public int set(int s, int i, long v) {
        Shelf shelf = shelfAt(s);
        int code = rowRefusal(shelf);
        if (code == 0 && shelf != null && !shelf.has(i)) {
            code = BEYOND;
        }
        if (code != 0 || shelf == null) {
            return refuse(code);
        }
        shelf.write(i, v);
        return 1;
    }

    public int copy(int p, int q, int i, int j, int n) {
        Shelf from = shelfAt(p);
        Shelf to = shelfAt(q);
        int code = copyRefusal(from, to);
        if (code == 0 && n < 0) {
            code = BELOW;
        }
        if (code == 0 && from != null && to != null && !(from.hasRun(i, n) && to.hasRun(j, n))) {
            code = BEYOND;
        }
        if (code != 0 || from == null || to == null) {
            return refuse(code);
        }
        to.takeRun(from, i, j, n);
        return 1;
    }

    public long element(int s, int i) {
        Shelf shelf = shelfAt(s);
        return shelf == null ? 0L : shelf.read(i);
    }

    public int show(int s, int thing) {
        Shelf shelf = shelfAt(s);
        if (shelf == null || (thing != NONE && now.thingAt(thing) == null)) {
            return refuse(NOBODY);
        }
        if (thing == NONE) {
            shelf.clear();
            return 0;
        }
        shelf.point(thing);
        return 1;
    }

    public int holds(int s) {
        Shelf shelf = shelfAt(s);
        if (shelf == null) {
            return NONE;
        }
        return shelf.isRow() ? 100 + shelf.sort : shelf.pointed;
    }

    public int says(int s, int kind) {
        Shelf shelf = shelfAt(s);
        if (shelf == null || !now.may(N_KIND, kind)) {
            return refuse(NOBODY);
        }
        if (shelf.isRow()) {
            return refuse(OTHER);
        }
        Thing thing = now.thingAt(shelf.pointed);
        if (thing == null) {
            return refuse(NOTHING);
        }
        if (!thing.isOne(kind)) {
            return refuse(OTHER);
        }
        switch (kind) {
            case THING:
                return thing.cell;
            case DOOR:
                return thing.shut ? 1 : 0;
            case OVEN:
            case COT:
                return thing.humsFar(0, now.minute);
            default:
                return thing.swallows();
        }
    }

    // ---- the house ----

    public int side(int n) {
        if (!now.may(N_SIDE, n)) {
            return refuse(WRONG);
        }
        int was = now.side;
        now.side = n;
        return was;
    }

    public int thing(int kind, int a, int cell) {
        if (!now.may(N_KIND, kind)) {
            return refuse(NOBODY);
        }
        if (!now.may(N_A, a) || !now.isCell(cell)) {
            return refuse(WRONG);
        }
        if (now.things >= THINGS) {
            return refuse(ROOM);
        }
        return now.addThing(kind, a, cell);
    }

    public int neighbour(int channel, int noise) {
        if (!now.may(N_CHANNEL, channel) || !now.may(N_NOISE, noise)) {
            return refuse(WRONG);
        }
        if (now.neighbours >= NEIGHBOURS) {
            return refuse(ROOM);
        }
        return now.addNeighbour(channel, noise);
    }

    public int device(int cell, int want, int worth) {
        if (!now.isCell(cell) || !now.may(N_WANT, want) || !now.may(N_WORTH, worth)) {
            return refuse(WRONG);
        }
        if (now.devices >= DEVICES) {
            return refuse(ROOM);
        }
        return now.addDevice(cell, want, worth);
    }

    public int box(int box, int cell) {
        boolean nowhere = box == 1 && cell == NONE;
        if (!now.may(N_BOX, box) || !(nowhere || now.isCell(cell))) {
            return refuse(WRONG) + APART;
        }
        int was = now.placeOf(box);
        now.place(box, cell);
        return was;
    }

    public int ask(int what, int v) {
        if (what == 0 && now.may(N_POWER, v)) {
            int was = now.power;
            now.power = v;
            return was;
        }
        if (what == 1 && now.may(N_CHANNEL, v)) {
            int was = now.channel;
            now.channel = v;
            return was;
        }
        if (what == 2 && now.may(N_MINUTE, v)) {
            int was = now.minute;
            now.minute = v;
            return was;
        }
        return refuse(WRONG);
    }

    public int shut(int thing, boolean is) {
        Thing one = now.thingAt(thing);
        if (one == null) {
            return refuse(NOBODY);
        }
        int was = one.shut ? 1 : 0;
        one.shut = is;
        return was;
    }

    public int move(int thing, int cell) {
        Thing one = now.thingAt(thing);
        if (one == null) {
            return refuse(NOBODY);
        }
        if (!now.isCell(cell)) {
            return refuse(WRONG);
        }
        int was = one.cell;
        one.cell = cell;
        return was;
    }

    public int thingOf(int thing, int what) {
        Thing one = now.thingAt(thing);
        if (one == null) {
            return refuse(BEYOND);
        }
        switch (what) {
            case 0:
                return one.kind;
            case 1:
                return one.a;
            case 2:
                return one.cell;
            case 3:
                return one.shut ? 1 : 0;
            case 4:
                return one.swallows();
            default:
                return refuse(BEYOND);
        }
    }

    public int deviceOf(int device, int what) {
        Device one = now.deviceAt(device);
        if (one == null) {
            return refuse(BEYOND);
        }
        air.lay();
        switch (what) {
            case 0:
                return one.cell;
            case 1:
                return one.want;
            case 2:
                return one.worth;
            case 3:
                return one.clings;
            case 4:
                return air.paceOf(one.clings, one.cell);
            case 5:
                return Math.max(air.paceOf(0, one.cell), air.paceOf(1, one.cell));
            default:
                return refuse(BEYOND);
        }
    }

    public int house(int s) {
        Shelf shelf = shelfAt(s);
        int code = rowRefusal(shelf);
        if (code != 0 || shelf == null) {
            return refuse(code);
        }
        draft.become(now);
        int items = reader.readAll(shelf);
        faultPlace = reader.faultPlace;
        if (items == NONE) {
            return refuse(WRONG);
        }
        now.become(draft);
        return items;
    }

    public int fault() {
        return faultPlace;
    }

    // ---- strength ----

    public int bars(int box, int cell, int what) {
        if (what < 0 || what > 2) {
            return refuse(BEYOND);
        }
        if (!now.may(N_BOX, box) || !now.isCell(cell)) {
            return refuse(WRONG);
        }
        air.lay();
        if (what == 0) {
            return air.strengthFrom(now.placeOf(box), cell);
        }
        return what == 1 ? air.barsOf(box, cell) : air.paceOf(box, cell);
    }

    public int way(int cell, int other, int what) {
        if (what < 0 || what > 1) {
            return refuse(BEYOND);
        }
        if (!now.isCell(cell) || !now.isCell(other)) {
            return refuse(WRONG);
        }
        if (what == 0) {
            return stepsFar(cell, other);
        }
        air.lay();
        return air.wayLoss(cell, other);
    }

    public int hum(int cell, int what) {
        if (what < 0 || what > 1) {
            return refuse(BEYOND);
        }
        if (!now.isCell(cell)) {
            return refuse(WRONG);
        }
        if (what == 1) {
            return now.dinOn(now.channel);
        }
        air.lay();
        return air.humAt(cell);
    }

    public int filled(int what) {
        if (what < 0 || what > 1) {
            return refuse(BEYOND);
        }
        air.lay();
        return what == 0 ? air.filledNow() : air.servedNow();
    }

    // ---- what comes of it ----

    public int put(int what) {
        if (what < 0 || what > 2) {
            return refuse(BEYOND);
        }
        plan.begin();
        return what == 2 ? plan.bestPair() : plan.bestPlace(what);
    }

    public int channel() {
        int best = 1;
        for (int on = 2; on <= CHANNELS; on++) {
            if (now.dinOn(on) < now.dinOn(best)) {
                best = on;
            }
        }
        return best;
    }

    public int rests() {
        rounds.begin();
        for (int moves = 0; moves < ROUNDS; moves++) {
            if (!rounds.goOnce()) {
                return moves;
            }
        }
        return NONE;
    }

    public int goesTo(int neighbour, int n) {
        if (neighbour < 0 || neighbour >= now.neighbours) {
            return refuse(NOBODY);
        }
        if (n < 0 || n > ROUNDS) {
            return refuse(WRONG);
        }
        rounds.begin();
        for (int round = 0; round < n; round++) {
            rounds.goOnce();
        }
        return rounds.channelAt(neighbour);
    }

    public int moved() {
        plan.begin();
        return plan.bestAway();
    }

    public int doors() {
        plan.begin();
        return plan.bestDoors();
    }

    public int count(int n) {
        if (!now.may(N_BARS, n)) {
            return refuse(WRONG);
        }
        air.lay();
        int many = 0;
        for (int cell = 0; cell < PLACES; cell++) {
            if (now.isCell(cell) && air.betterBars(cell) >= n) {
                many++;
            }
        }
        return many;
    }

    public int fits(int s, int n, int i) {
        Shelf shelf = shelfAt(s);
        int code = pairsRefusal(shelf, n);
        if (code != 0) {
            return refuse(code);
        }
        search.look(shelf, n);
        if (i == NONE) {
            return search.many;
        }
        int cell = search.fitting(i);
        return cell == NONE ? refuse(BEYOND) : cell;
    }

    public int next(int s, int n) {
        Shelf shelf = shelfAt(s);
        int code = pairsRefusal(shelf, n);
        if (code != 0) {
            return refuse(code) + APART;
        }
        search.look(shelf, n);
        return search.many < 2 ? NONE : search.bestMeasure();
    }

    public int near(int cell, int n) {
        if (!now.isCell(cell) || !now.may(N_BARS, n)) {
            return refuse(WRONG) + APART;
        }
        air.lay();
        int least = NONE;
        for (int other = 0; other < PLACES; other++) {
            if (now.isCell(other) && air.betterBars(other) >= n) {
                int steps = stepsFar(cell, other);
                least = least == NONE ? steps : Math.min(least, steps);
            }
        }
        return least;
    }

    public int minute() {
        plan.begin();
        return plan.bestMinute();
    }

    public int blame(int cell) {
        if (!now.isCell(cell)) {
            return refuse(WRONG);
        }
        air.lay();
        int most = 2 * stepsFar(now.first, cell);
        int what = 0;
        int loss = air.wayLoss(now.first, cell);
        if (loss > most) {
            most = loss;
            what = 1;
        }
        int humming = air.humAt(cell);
        if (humming > most) {
            most = humming;
            what = 2;
        }
        return air.din > most ? 3 : what;
    }

    public int judge(int s, int n) {
        Shelf shelf = shelfAt(s);
        int code = toldRefusal(shelf, n, 1);
        if (code != 0) {
            return refuse(code) + APART;
        }
        return firstWrong(shelf, n);
    }

    public int hops(int s, int n, int rule) {
        Shelf shelf = shelfAt(s);
        int code = toldRefusal(shelf, n, 1);
        if (code == 0 && rule != NONE && !now.may(N_RULE, rule)) {
            code = WRONG;
        }
        if (code == 0 && firstWrong(shelf, n) != NONE) {
            code = WRONG;
        }
        if (code != 0) {
            return refuse(code);
        }
        air.lay();
        return rule == NONE ? calmest(shelf, n) : hopsOf(shelf, n, rule);
    }

    // ---- in truth ----

    public int evening(int n, int rule) {
        if (n < 1 || n > MINUTES || !now.may(N_RULE, rule)) {
            return refuse(WRONG);
        }
        air.lay();
        for (int minute = 0; minute < n; minute++) {
            passMinute(rule);
        }
        return air.filledNow();
    }

    public int weeks(int n) {
        if (n < 1 || n > MINUTES) {
            return refuse(WRONG);
        }
        int sum = 0;
        for (int week = 0; week < n; week++) {
            chance();
            air.lay();
            passMinute(1);
            sum += air.filledNow();
        }
        return sum;
    }

    public int seed(int v) {
        int was = now.seed;
        now.seed = v;
        return was;
    }

    // ---- moves ----

    public int act(int thing, int move, int x) {
        play.clear();
        Thing one = now.thingAt(thing);
        if (one == null || move < 0 || move > 2) {
            return 0;
        }
        play.cast(one, thing);
        return run(play, move, one.kind, x, 0);
    }

    public int trace(int i) {
        return play.bodyAt(i);
    }

    // ---- the image ----

    public int image() {
        kept.become(now);
        imaged = true;
        return kept.things;
    }

    public int restore() {
        if (!imaged) {
            return refuse(WRONG);
        }
        now.become(kept);
        for (int s = 0; s < shelves.length; s++) {
            Shelf shelf = shelfAt(s);
            if (shelf != null && shelf.pointed >= now.things) {
                shelf.clear();
            }
        }
        return now.things;
    }

    public int status(int what) {
        if (what >= 11 && what <= 17) {
            int i = what - 10;
            return i < refusals.length ? refusals[i] : NONE;
        }
        switch (what) {
            case 0:
                return now.things;
            case 1:
                return now.side;
            case 2:
                return now.neighbours;
            case 3:
                return now.devices;
            case 4:
                return now.power;
            case 5:
                return now.channel;
            case 6:
                return now.minute;
            case 7:
                return now.first;
            case 8:
                return now.second;
            case 9:
                return now.seed;
            case 10:
                return play.ran;
            default:
                return NONE;
        }
    }

    // ---- what the calls share ----

    private int refuse(int code) {
        int i = -code;
        if (i > 0 && i < refusals.length) {
            refusals[i]++;
        }
        return code;
    }

    private Shelf shelfAt(int s) {
        return s >= 0 && s < shelves.length ? shelves[s] : null;
    }

    private static int rowRefusal(Shelf shelf) {
        if (shelf == null) {
            return NOBODY;
        }
        if (shelf.isRow()) {
            return 0;
        }
        return shelf.pointed == NONE ? NOTHING : OTHER;
    }

    private static int copyRefusal(Shelf from, Shelf to) {
        int one = rowRefusal(from);
        int two = rowRefusal(to);
        if (one == NOBODY || two == NOBODY || from == null || to == null) {
            return NOBODY;
        }
        if (one == OTHER || two == OTHER) {
            return OTHER;
        }
        if (one == NOTHING || two == NOTHING) {
            return NOTHING;
        }
        return from.sort == to.sort ? 0 : OTHER;
    }

    /** The refusal of a told row of n times so many elements, 0 if there is none. */
    private static int toldRefusal(Shelf shelf, int n, int each) {
        int code = rowRefusal(shelf);
        if (code != 0 || shelf == null) {
            return code;
        }
        if (n < 0) {
            return BELOW;
        }
        if ((long) n * each > shelf.size) {
            return BEYOND;
        }
        return n > TOLD ? WRONG : 0;
    }

    private int pairsRefusal(Shelf shelf, int n) {
        int code = toldRefusal(shelf, n, 2);
        if (code != 0 || shelf == null) {
            return code;
        }
        for (int pair = 0; pair < n; pair++) {
            if (!now.isCell(shelf.tells(2 * pair)) || !now.may(N_BARS, shelf.tells(2 * pair + 1))) {
                return WRONG;
            }
        }
        return 0;
    }

    private int firstWrong(Shelf shelf, int n) {
        if (shelf == null) {
            return NONE;
        }
        for (int i = 0; i < n; i++) {
            int cell = shelf.tells(i);
            if (!now.isCell(cell) || (i > 0 && stepsFar(shelf.tells(i - 1), cell) > 1)) {
                return i;
            }
        }
        return NONE;
    }

    private int hopsOf(Shelf shelf, int n, int rule) {
        if (shelf == null) {
            return 0;
        }
        int clings = 0;
        int hops = 0;
        for (int i = 0; i < n; i++) {
            int then = air.clingsThen(clings, shelf.tells(i), rule);
            if (then != clings) {
                hops++;
            }
            clings = then;
        }
        return hops;
    }

    private int calmest(Shelf shelf, int n) {
        int calm = 0;
        int fewest = hopsOf(shelf, n, 0);
        for (int rule = 1; rule <= RULES; rule++) {
            int hops = hopsOf(shelf, n, rule);
            if (hops <= fewest) {
                fewest = hops;
                calm = rule;
            }
        }
        return calm;
    }

    /** A minute passes in truth: only the hum goes by minutes, so it alone is laid anew. */
    private void passMinute(int rule) {
        now.minute = (now.minute + 1) % MINUTES;
        air.layHum();
        for (int d = 0; d < now.devices; d++) {
            Device device = now.deviceAt(d);
            if (device != null) {
                device.clings = air.clingsThen(device.clings, device.cell, rule);
            }
        }
    }

    private void chance() {
        int sort = now.draw(4);
        if (sort == 0 && now.devices > 0) {
            Device device = now.deviceAt(now.draw(now.devices));
            int line = now.draw(now.side);
            int column = now.draw(now.side);
            if (device != null) {
                device.cell = 10 * line + column;
            }
        }
        if (sort == 1 && now.things > 0) {
            Thing thing = now.thingAt(now.draw(now.things));
            if (thing != null) {
                thing.shut = !thing.shut;
            }
        }
        if (sort == 2 && now.neighbours > 0) {
            int neighbour = now.draw(now.neighbours);
            now.tune(neighbour, 1 + now.draw(CHANNELS));
        }
    }

    private static int stepsFar(int cell, int other) {
        return Math.abs(cell / 10 - other / 10) + Math.abs(cell % 10 - other % 10);
    }

    private static boolean isPlace(int cell) {
        return cell >= 0 && cell < PLACES;
    }

    private static int kindAbove(int kind) {
        return kind >= 0 && kind < ABOVE.length ? ABOVE[kind] : THING;
    }

    private static int barsBy(int strength) {
        return Math.min(BARS, strength / 10);
    }

    private static int noiseOver(int noise, int difference) {
        return noise * Math.max(0, 5 - Math.abs(difference)) / 5;
    }

    /** A move's body from a kind on upwards; the bodies call it for what they call. */
    private static int run(Play play, int move, int from, int x, int depth) {
        if (play == null || depth > Play.DEEPEST) {
            return 0;
        }
        int kind = Play.kindWithBody(move, from);
        int up = kindAbove(kind);
        int own = play.kind;
        int deeper = depth + 1;
        int body = Play.bodyOf(move, kind);
        play.note(body);
        switch (body) {
            case 10:
                return x + play.number;
            case 11:
                return run(play, Play.STANDS, own, x, deeper) * 2;
            case 12:
                return run(play, Play.TAKES, own, x, deeper) ^ run(play, Play.STANDS, own, x - play.a, deeper);
            case 20:
                return run(play, Play.STANDS, up, x, deeper) + play.a;
            case 30:
                return run(play, Play.TAKES, up, x, deeper) * 3;
            case 40:
                return run(play, Play.TAKES, up, x + 1, deeper);
            case 50:
                return -run(play, Play.HUMS, up, x, deeper);
            case 51:
                return run(play, Play.STANDS, up, x, deeper) - play.number;
            case 60:
                return run(play, Play.HUMS, up, x, deeper) ^ 5;
            case 70:
                return run(play, Play.STANDS, up, x, deeper) * 2;
            case 71:
                return run(play, Play.TAKES, up, x - play.a, deeper);
            default:
                return 0;
        }
    }

    private static final class Thing {
        int kind = THING;
        int a = 0;
        int cell = 0;
        boolean shut = true;

        void become(Thing other) {
            if (other == null) {
                return;
            }
            kind = other.kind;
            a = other.a;
            cell = other.cell;
            shut = other.shut;
        }

        boolean isOne(int asked) {
            int at = kind;
            for (int up = 0; up < ABOVE.length; up++) {
                if (at == asked) {
                    return true;
                }
                at = kindAbove(at);
            }
            return false;
        }

        int swallows() {
            switch (kind) {
                case THING:
                    return a;
                case WALL:
                    return a + 3;
                case OLD:
                    return 2 * (a + 3);
                case DOOR:
                    return shut ? a : 0;
                case GLASS:
                    return shut ? a / 2 : 0;
                default:
                    return 0;
            }
        }

        int humsFar(int steps, int minute) {
            int loud = 0;
            if (kind == OVEN && minute % 10 < a) {
                loud = 20;
            }
            if (kind == COT) {
                loud = 10;
            }
            return Math.max(0, loud - 5 * steps);
        }
    }

    private static final class Device {
        int cell = 0;
        int want = 1;
        int worth = 1;
        int clings = 0;

        void become(Device other) {
            if (other == null) {
                return;
            }
            cell = other.cell;
            want = other.want;
            worth = other.worth;
            clings = other.clings;
        }
    }

    /** All that an image keeps. Its rows are made once: houses become each other by their contents. */
    private static final class House {
        int side = 4;
        int power = 50;
        int channel = 6;
        int minute = 0;
        int seed = 1;
        int first = 0;
        int second = NONE;
        int things = 0;
        int neighbours = 0;
        int devices = 0;
        private final Thing[] thingRow = new Thing[THINGS];
        private final Device[] deviceRow = new Device[DEVICES];
        private final int[] channels = new int[NEIGHBOURS];
        private final int[] noises = new int[NEIGHBOURS];

        House() {
            for (int i = 0; i < thingRow.length; i++) {
                thingRow[i] = new Thing();
            }
            for (int i = 0; i < deviceRow.length; i++) {
                deviceRow[i] = new Device();
            }
        }

        void become(House other) {
            if (other == null) {
                return;
            }
            side = other.side;
            power = other.power;
            channel = other.channel;
            minute = other.minute;
            seed = other.seed;
            first = other.first;
            second = other.second;
            things = other.things;
            neighbours = other.neighbours;
            devices = other.devices;
            for (int i = 0; i < things; i++) {
                Thing mine = thingAt(i);
                if (mine != null) {
                    mine.become(other.thingAt(i));
                }
            }
            for (int i = 0; i < devices; i++) {
                Device mine = deviceAt(i);
                if (mine != null) {
                    mine.become(other.deviceAt(i));
                }
            }
            for (int i = 0; i < NEIGHBOURS; i++) {
                channels[i] = other.channelAt(i);
                noises[i] = other.noiseAt(i);
            }
        }

        boolean isCell(int cell) {
            return cell >= 0 && cell / 10 < side && cell % 10 < side;
        }

        boolean may(int sort, int v) {
            if (sort == N_CELL) {
                return isCell(v);
            }
            if (sort < 0 || sort >= LEAST.length || sort >= MOST.length) {
                return false;
            }
            if ((sort == N_SIDE && v < side) || (sort == N_THING && v >= things)) {
                return false;
            }
            return v >= LEAST[sort] && v <= MOST[sort];
        }

        Thing thingAt(int i) {
            return i >= 0 && i < things && i < thingRow.length ? thingRow[i] : null;
        }

        Device deviceAt(int i) {
            return i >= 0 && i < devices && i < deviceRow.length ? deviceRow[i] : null;
        }

        int channelAt(int i) {
            return i >= 0 && i < channels.length ? channels[i] : 0;
        }

        int noiseAt(int i) {
            return i >= 0 && i < noises.length ? noises[i] : 0;
        }

        void tune(int i, int on) {
            if (i >= 0 && i < channels.length) {
                channels[i] = on;
            }
        }

        int addThing(int kind, int a, int cell) {
            if (things >= THINGS) {
                return NONE;
            }
            int number = things;
            things++;
            Thing thing = thingAt(number);
            if (thing != null) {
                thing.kind = kind;
                thing.a = a;
                thing.cell = cell;
                thing.shut = true;
            }
            return number;
        }

        int addNeighbour(int on, int noise) {
            int number = neighbours;
            if (number < 0 || number >= NEIGHBOURS) {
                return NONE;
            }
            channels[number] = on;
            noises[number] = noise;
            neighbours++;
            return number;
        }

        int addDevice(int cell, int want, int worth) {
            if (devices >= DEVICES) {
                return NONE;
            }
            int number = devices;
            devices++;
            Device device = deviceAt(number);
            if (device != null) {
                device.cell = cell;
                device.want = want;
                device.worth = worth;
                device.clings = 0;
            }
            return number;
        }

        int placeOf(int box) {
            return box == 0 ? first : second;
        }

        void place(int box, int cell) {
            if (box == 0) {
                first = cell;
            } else {
                second = cell;
            }
        }

        int dinOn(int on) {
            int sum = 0;
            for (int i = 0; i < neighbours; i++) {
                sum += noiseOver(noiseAt(i), channelAt(i) - on);
            }
            return sum;
        }

        int wholeWorth() {
            int sum = 0;
            for (int d = 0; d < devices; d++) {
                Device device = deviceAt(d);
                sum += device == null ? 0 : device.worth;
            }
            return sum;
        }

        int draw(int below) {
            seed = seed * 1103515245 + 12345;
            return below > 0 ? (seed >>> 16) % below : 0;
        }
    }

    /** A shelf with its one row of longs, made once; a row of another sort keeps its elements cut to that sort. */
    private static final class Shelf {
        private static final int NO_ROW = -1;

        int sort = NO_ROW;
        int size = 0;
        int pointed = NONE;
        private final long[] elements = new long[ELEMENTS];

        void clear() {
            sort = NO_ROW;
            size = 0;
            pointed = NONE;
        }

        void layRow(int newSort, int n) {
            clear();
            sort = newSort;
            size = Math.max(0, Math.min(n, elements.length));
            Arrays.fill(elements, 0L);
        }

        void point(int thing) {
            clear();
            pointed = thing;
        }

        boolean isRow() {
            return sort != NO_ROW;
        }

        boolean has(int i) {
            return i >= 0 && i < size && i < elements.length;
        }

        boolean hasRun(int i, int n) {
            return i >= 0 && n >= 0 && (long) i + n <= size;
        }

        long read(int i) {
            return has(i) ? elements[i] : 0L;
        }

        /** An element as it counts where a row tells something. */
        int tells(int i) {
            return has(i) ? (int) elements[i] : 0;
        }

        void write(int i, long v) {
            if (has(i)) {
                elements[i] = cut(v);
            }
        }

        void takeRun(Shelf from, int i, int j, int n) {
            if (from != null && from.hasRun(i, n) && hasRun(j, n)) {
                System.arraycopy(from.elements, i, elements, j, n);
            }
        }

        private long cut(long v) {
            switch (sort) {
                case 0:
                    return (byte) v;
                case 1:
                    return (short) v;
                case 2:
                    return (int) v;
                default:
                    return v;
            }
        }
    }

    /** How strong the boxes are where, over a house as it stood when this was laid. */
    private static final class Air {
        private static final int UNKNOWN = -1;

        private final House house;
        private final int[] loss = new int[PLACES];
        // Sums of losses from the line's first cell on, so that a way costs a few steps however long it is.
        private final int[] across = new int[PLACES];
        private final int[] down = new int[PLACES];
        private final int[] hums = new int[PLACES];
        // Bars at each device's cell of a box in each cell, where reachFrom() has been asked.
        private final int[] reach = new int[DEVICES * PLACES];
        int din = 0;

        Air(House house) {
            this.house = house;
        }

        void lay() {
            layLoss();
            layHum();
            din = house.dinOn(house.channel);
        }

        void layLoss() {
            Arrays.fill(loss, 0);
            for (int i = 0; i < house.things; i++) {
                Thing thing = house.thingAt(i);
                if (thing != null && isPlace(thing.cell)) {
                    loss[thing.cell] += thing.swallows();
                }
            }
            for (int cell = 0; cell < PLACES; cell++) {
                across[cell] = loss[cell] + (cell % 10 == 0 ? 0 : across[cell - 1]);
                down[cell] = loss[cell] + (cell < 10 ? 0 : down[cell - 10]);
            }
        }

        /** The hum of a cell is reckoned when it is asked for: often few cells are. */
        void layHum() {
            Arrays.fill(hums, UNKNOWN);
        }

        int humAt(int cell) {
            if (!isPlace(cell)) {
                return 0;
            }
            if (hums[cell] == UNKNOWN) {
                int sum = 0;
                for (int i = 0; i < house.things; i++) {
                    Thing thing = house.thingAt(i);
                    if (thing != null) {
                        sum += thing.humsFar(stepsFar(thing.cell, cell), house.minute);
                    }
                }
                hums[cell] = sum;
            }
            return hums[cell];
        }

        int wayLoss(int from, int to) {
            int rowFirst = from / 10 * 10 + to % 10;
            int columnFirst = to / 10 * 10 + from % 10;
            int one = along(across, from, rowFirst) + along(down, rowFirst, to);
            int two = along(down, from, columnFirst) + along(across, columnFirst, to);
            return Math.min(one, two);
        }

        /** Losses on a line, of all but its first cell; cell numbers grow along rows and columns alike. */
        private int along(int[] sums, int from, int to) {
            if (!isPlace(from) || !isPlace(to)) {
                return 0;
            }
            if (to > from) {
                return sums[to] - sums[from];
            }
            return sums[from] - loss[from] - sums[to] + loss[to];
        }

        /** 0 if a cell is none: so a box that isn't there has no strength anywhere. */
        int strengthFrom(int from, int to) {
            if (!isPlace(from) || !isPlace(to)) {
                return 0;
            }
            return Math.max(0, house.power - 2 * stepsFar(from, to) - wayLoss(from, to) - humAt(to) - din);
        }

        int barsOf(int box, int cell) {
            return barsBy(strengthFrom(house.placeOf(box), cell));
        }

        int betterBars(int cell) {
            return Math.max(barsOf(0, cell), barsOf(1, cell));
        }

        int paceOf(int box, int cell) {
            if (box == 0) {
                return barsOf(0, cell);
            }
            return Math.min(barsOf(1, cell) / 2, barsOf(0, house.second));
        }

        int clingsThen(int box, int cell, int rule) {
            int bars = barsBy(strengthFrom(house.placeOf(box), cell));
            int others = barsBy(strengthFrom(house.placeOf(1 - box), cell));
            return bars <= rule && others > bars ? 1 - box : box;
        }

        int filledNow() {
            int sum = 0;
            for (int d = 0; d < house.devices; d++) {
                Device device = house.deviceAt(d);
                if (device != null && paceOf(device.clings, device.cell) >= device.want) {
                    sum += device.worth;
                }
            }
            return sum;
        }

        int servedNow() {
            reachFrom(house.first);
            reachFrom(house.second);
            return servedBy(house.first, house.second);
        }

        void reachFrom(int cell) {
            for (int d = 0; d < house.devices; d++) {
                Device device = house.deviceAt(d);
                if (device != null && isPlace(cell) && d < DEVICES) {
                    reach[d * PLACES + cell] = barsBy(strengthFrom(cell, device.cell));
                }
            }
        }

        /** SERVED, were the boxes in these cells; reachFrom() has been asked for both. */
        int servedBy(int one, int other) {
            int most = barsBy(strengthFrom(one, other));
            int sum = 0;
            for (int d = 0; d < house.devices; d++) {
                Device device = house.deviceAt(d);
                if (device != null) {
                    int best = Math.max(reachOf(d, one), Math.min(reachOf(d, other) / 2, most));
                    sum += best >= device.want ? device.worth : 0;
                }
            }
            return sum;
        }

        private int reachOf(int d, int cell) {
            return d >= 0 && d < DEVICES && isPlace(cell) ? reach[d * PLACES + cell] : 0;
        }
    }

    /** What is best for SERVED; it is tried out in a draft of the house, till all are served or all is tried. */
    private static final class Plan {
        private final House now;
        private final House draft;
        private final Air air;
        private final int[] doorRow = new int[DOORS];
        private int all = 0;

        Plan(House now, House draft) {
            this.now = now;
            this.draft = draft;
            this.air = new Air(draft);
        }

        void begin() {
            draft.become(now);
            air.lay();
            all = draft.wholeWorth();
        }

        private void reachFromAll() {
            for (int cell = 0; cell < PLACES; cell++) {
                if (draft.isCell(cell)) {
                    air.reachFrom(cell);
                }
            }
        }

        int bestPlace(int box) {
            reachFromAll();
            int best = 0;
            int most = NONE;
            for (int cell = 0; cell < PLACES && most < all; cell++) {
                if (draft.isCell(cell)) {
                    int served = box == 0 ? air.servedBy(cell, draft.second) : air.servedBy(draft.first, cell);
                    if (served > most) {
                        most = served;
                        best = cell;
                    }
                }
            }
            return best;
        }

        int bestPair() {
            reachFromAll();
            int best = 0;
            int most = NONE;
            for (int one = 0; one < PLACES; one++) {
                for (int other = 0; other < PLACES && most < all && draft.isCell(one); other++) {
                    int served = draft.isCell(other) ? air.servedBy(one, other) : NONE;
                    if (served > most) {
                        most = served;
                        best = 100 * one + other;
                    }
                }
            }
            return best;
        }

        int bestAway() {
            int best = NONE;
            int most = NONE;
            for (int i = 0; i < draft.things && most < all; i++) {
                Thing thing = draft.thingAt(i);
                Thing real = now.thingAt(i);
                if (thing != null && real != null) {
                    // A THING of 0 swallows nothing and hums nothing: it is as if it were away.
                    thing.kind = THING;
                    thing.a = 0;
                    air.lay();
                    int served = air.servedNow();
                    thing.become(real);
                    if (served > most) {
                        most = served;
                        best = i;
                    }
                }
            }
            return best;
        }

        int bestDoors() {
            int doors = findDoors();
            // Bits from the least on: a shut door swallows, so what all open ones bring is seen first.
            int best = 0;
            int most = NONE;
            for (int bits = 0; bits < 1 << doors && most < all; bits++) {
                for (int i = 0; i < doors && i < doorRow.length; i++) {
                    Thing door = draft.thingAt(doorRow[i]);
                    if (door != null) {
                        door.shut = (bits >> i & 1) == 1;
                    }
                }
                air.layLoss();
                int served = air.servedNow();
                if (served > most) {
                    most = served;
                    best = bits;
                }
            }
            return best;
        }

        private int findDoors() {
            int doors = 0;
            for (int i = 0; i < draft.things && doors < doorRow.length; i++) {
                Thing thing = draft.thingAt(i);
                if (thing != null && thing.isOne(DOOR)) {
                    doorRow[doors] = i;
                    doors++;
                }
            }
            return doors;
        }

        int bestMinute() {
            int start = draft.minute;
            int best = start;
            int most = NONE;
            for (int later = 0; later < MINUTES && most < all; later++) {
                draft.minute = (start + later) % MINUTES;
                air.layHum();
                int served = air.servedNow();
                if (served > most) {
                    most = served;
                    best = draft.minute;
                }
            }
            return best;
        }
    }

    /** Where BOX 0 may be by what is measured. */
    private static final class Search {
        private final House house;
        private final Air air;
        private final int[] fit = new int[PLACES];
        private final int[] left = new int[BARS + 1];
        int many = 0;

        Search(House house, Air air) {
            this.house = house;
            this.air = air;
        }

        void look(Shelf pairs, int n) {
            air.lay();
            many = 0;
            for (int cell = 0; cell < PLACES && many < fit.length; cell++) {
                if (house.isCell(cell) && agrees(cell, pairs, n)) {
                    fit[many] = cell;
                    many++;
                }
            }
        }

        private boolean agrees(int from, Shelf pairs, int n) {
            if (pairs == null) {
                return false;
            }
            for (int pair = 0; pair < n; pair++) {
                int bars = barsBy(air.strengthFrom(from, pairs.tells(2 * pair)));
                if (bars != pairs.tells(2 * pair + 1)) {
                    return false;
                }
            }
            return true;
        }

        int fitting(int i) {
            return i >= 0 && i < many && i < fit.length ? fit[i] : NONE;
        }

        int bestMeasure() {
            int best = 0;
            int fewest = many + 1;
            for (int cell = 0; cell < PLACES; cell++) {
                if (house.isCell(cell)) {
                    int worst = worstLeft(cell);
                    if (worst < fewest) {
                        fewest = worst;
                        best = cell;
                    }
                }
            }
            return best;
        }

        private int worstLeft(int measured) {
            Arrays.fill(left, 0);
            int worst = 0;
            for (int i = 0; i < many; i++) {
                int bars = barsBy(air.strengthFrom(fitting(i), measured));
                if (bars >= 0 && bars < left.length) {
                    left[bars]++;
                    worst = Math.max(worst, left[bars]);
                }
            }
            return worst;
        }
    }

    /** Neighbours going from channel to channel, in thought. */
    private static final class Rounds {
        private static final int BOX_NOISE = 10;

        private final House house;
        private final int[] channels = new int[NEIGHBOURS];
        private int many = 0;

        Rounds(House house) {
            this.house = house;
        }

        void begin() {
            many = Math.min(house.neighbours, channels.length);
            for (int i = 0; i < many; i++) {
                channels[i] = house.channelAt(i);
            }
        }

        int channelAt(int i) {
            return i >= 0 && i < many && i < channels.length ? channels[i] : NONE;
        }

        /** One round of all; whether somebody moved. */
        boolean goOnce() {
            boolean moving = false;
            for (int i = 0; i < many && i < channels.length; i++) {
                int quietest = quietestFor(i);
                if (madeOn(quietest, i) < madeOn(channels[i], i)) {
                    channels[i] = quietest;
                    moving = true;
                }
            }
            return moving;
        }

        private int quietestFor(int i) {
            int best = 1;
            int least = madeOn(1, i);
            for (int on = 2; on <= CHANNELS; on++) {
                int made = madeOn(on, i);
                if (made < least) {
                    least = made;
                    best = on;
                }
            }
            return best;
        }

        private int madeOn(int on, int but) {
            int sum = noiseOver(BOX_NOISE, house.channel - on);
            for (int i = 0; i < many; i++) {
                if (i != but) {
                    sum += noiseOver(house.noiseAt(i), channelAt(i) - on);
                }
            }
            return sum;
        }
    }

    /** Reads a house's text over a draft. It stops at the first fault; what the draft is then doesn't count. */
    private static final class Reader {
        private static final int WORDS = 10;
        private static final int NUMBERS = 3;
        // The sorts of the numbers behind each word, NUMBERS for each, NONE where there is none.
        private static final int[] SORTS = {
            N_SIDE, NONE, NONE,
            N_KIND, N_A, N_CELL,
            N_BOX, N_CELL, NONE,
            N_POWER, NONE, NONE,
            N_CHANNEL, NONE, NONE,
            N_CHANNEL, N_NOISE, NONE,
            N_CELL, N_WANT, N_WORTH,
            N_THING, NONE, NONE,
            N_THING, NONE, NONE,
            N_MINUTE, NONE, NONE};

        private final House house;
        private final int[] numbers = new int[NUMBERS];
        private Shelf text = new Shelf();
        private int at = 0;
        int faultPlace = NONE;

        Reader(House house) {
            this.house = house;
        }

        /** How many items; NONE if there is a fault. */
        int readAll(Shelf row) {
            if (row == null) {
                return NONE;
            }
            text = row;
            at = 0;
            faultPlace = NONE;
            for (int items = 1; items <= ELEMENTS; items++) {
                if (!readItem()) {
                    return NONE;
                }
                if (at == text.size) {
                    return items;
                }
                if (!isHere(';')) {
                    faultPlace = at;
                    return NONE;
                }
                at++;
            }
            return NONE;
        }

        private boolean readItem() {
            int start = at;
            int word = readWord();
            if (word == NONE) {
                return false;
            }
            if (!hasRoom(word)) {
                faultPlace = start;
                return false;
            }
            for (int i = 0; i < NUMBERS; i++) {
                int sort = sortOf(word, i);
                if (sort != NONE && !readNumber(i, sort)) {
                    return false;
                }
            }
            apply(word);
            return true;
        }

        private int readWord() {
            int most = 0;
            for (int word = 0; word < WORDS; word++) {
                String letters = lettersOf(word);
                int same = 0;
                while (same < letters.length() && isAt(at + same, letters.charAt(same))) {
                    same++;
                }
                if (same == letters.length()) {
                    at += same;
                    return word;
                }
                most = Math.max(most, same);
            }
            faultPlace = at + most;
            return NONE;
        }

        private boolean readNumber(int i, int sort) {
            if (!isHere(' ')) {
                faultPlace = at;
                return false;
            }
            at++;
            int start = at;
            int value = 0;
            for (int digits = 0; digits < 2 && digitHere() != NONE; digits++) {
                value = 10 * value + digitHere();
                at++;
            }
            if (at == start || !house.may(sort, value)) {
                faultPlace = start;
                return false;
            }
            if (i >= 0 && i < numbers.length) {
                numbers[i] = value;
            }
            return true;
        }

        private boolean isHere(char letter) {
            return isAt(at, letter);
        }

        private boolean isAt(int i, char letter) {
            return text.has(i) && text.tells(i) == letter;
        }

        private int digitHere() {
            int element = text.tells(at);
            return text.has(at) && element >= '0' && element <= '9' ? element - '0' : NONE;
        }

        private boolean hasRoom(int word) {
            switch (word) {
                case 1:
                    return house.things < THINGS;
                case 5:
                    return house.neighbours < NEIGHBOURS;
                case 6:
                    return house.devices < DEVICES;
                default:
                    return true;
            }
        }

        private void apply(int word) {
            int one = numbers[0];
            int two = numbers[1];
            int three = numbers[2];
            Thing thing = house.thingAt(one);
            switch (word) {
                case 0:
                    house.side = one;
                    break;
                case 1:
                    house.addThing(one, two, three);
                    break;
                case 2:
                    house.place(one, two);
                    break;
                case 3:
                    house.power = one;
                    break;
                case 4:
                    house.channel = one;
                    break;
                case 5:
                    house.addNeighbour(one, two);
                    break;
                case 6:
                    house.addDevice(one, two, three);
                    break;
                case 9:
                    house.minute = one;
                    break;
                default:
                    if (thing != null) {
                        thing.shut = word == 8;
                    }
                    break;
            }
        }

        private static int sortOf(int word, int i) {
            int place = word * NUMBERS + i;
            return place >= 0 && place < SORTS.length ? SORTS[place] : NONE;
        }

        private static String lettersOf(int word) {
            switch (word) {
                case 0:
                    return "side";
                case 1:
                    return "thing";
                case 2:
                    return "box";
                case 3:
                    return "power";
                case 4:
                    return "channel";
                case 5:
                    return "neighbour";
                case 6:
                    return "device";
                case 7:
                    return "open";
                case 8:
                    return "shut";
                default:
                    return "minute";
            }
        }
    }

    /** A thing that moves, and the bodies that ran. */
    private static final class Play {
        static final int STANDS = 0;
        static final int TAKES = 1;
        static final int HUMS = 2;
        // The longest chain of bodies (a cot that hums) has seven.
        static final int DEEPEST = 40;
        private static final int MOVES = 3;
        private static final int KINDS = 7;
        private static final int[] BODIES = {
            10, 11, 12,
            20, 0, 0,
            0, 30, 0,
            0, 40, 0,
            51, 0, 50,
            0, 0, 60,
            70, 71, 0};

        int kind = THING;
        int a = 0;
        int number = 0;
        int ran = 0;
        private final int[] kept = new int[20];

        void clear() {
            ran = 0;
        }

        void cast(Thing thing, int m) {
            if (thing != null) {
                kind = thing.kind;
                a = thing.a;
                number = m;
            }
        }

        void note(int body) {
            if (ran >= 0 && ran < kept.length) {
                kept[ran] = body;
            }
            ran++;
        }

        int bodyAt(int i) {
            return i >= 0 && i < ran && i < kept.length ? kept[i] : NONE;
        }

        static int bodyOf(int move, int kind) {
            int place = kind * MOVES + move;
            return place >= 0 && place < BODIES.length ? BODIES[place] : 0;
        }

        static int kindWithBody(int move, int from) {
            int at = from;
            for (int up = 0; up < KINDS && bodyOf(move, at) == 0; up++) {
                at = kindAbove(at);
            }
            return at;
        }
    }
}
