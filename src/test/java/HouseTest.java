/** Promises 1 and 9 to 18. */
public final class HouseTest {
    private static final int LOW = Integer.MIN_VALUE;
    private static final int HIGH = Integer.MAX_VALUE;

    private static void promise1NewObject() {
        Face x = Watch.fresh();
        int[] due = {0, 4, 0, 0, 50, 6, 0, 0, -1, 1, 0, 0, 0, 0, 0, 0, 0, 0};
        for (int what = 0; what < due.length; what++) {
            Checks.due("status " + what, x.status(what), due[what]);
        }
        Checks.due("fault", x.fault(), -1);
        Checks.due("trace", x.trace(0), -1);
        Checks.due("shelf", x.holds(0), -1);
        Checks.due("no image", x.restore(), -6);
        Checks.due("no thing", x.thingOf(0, 0), -5);
        Checks.due("no device", x.deviceOf(0, 0), -5);
        Checks.due("no neighbour", x.goesTo(0, 0), -1);
        Face y = Watch.fresh();
        x.thing(1, 2, 3);
        x.ask(0, 20);
        Checks.due("objects of their own", y.status(0), 0);
        Checks.due("powers of their own", y.status(4), 50);
    }

    private static void promise9Side() {
        Face x = Watch.fresh();
        for (int bad : new int[] {LOW, -1, 0, 1, 2, 3, 9, HIGH}) {
            Checks.due("side " + bad, x.side(bad), -6);
        }
        Checks.due("counted", x.status(16), 8);
        Checks.due("as many", x.side(4), 4);
        Checks.due("a cell outside", x.thing(0, 0, 40), -6);
        Checks.due("more", x.side(5), 4);
        Checks.due("inside now", x.thing(0, 0, 44), 0);
        Checks.due("most", x.side(8), 5);
        Checks.due("less", x.side(7), -6);
        Checks.due("it stays", x.status(1), 8);
        Checks.due("the last cell", x.thing(0, 0, 77), 1);
        Checks.due("behind it", x.thing(0, 0, 78), -6);
    }

    private static void promise10Thing() {
        Face x = Watch.fresh();
        Checks.due("kind first", x.thing(7, 10, 99), -1);
        Checks.due("kind", x.thing(-1, 0, 0), -1);
        Checks.due("a", x.thing(0, 10, 0), -6);
        Checks.due("a below", x.thing(0, -1, 0), -6);
        for (int bad : new int[] {LOW, -10, -1, 4, 14, 40, 44, 100, HIGH}) {
            Checks.due("cell " + bad, x.thing(0, 0, bad), -6);
        }
        for (int i = 0; i < 16; i++) {
            Checks.due("number", x.thing(i % 7, i % 10, 10 * (i / 4) + i % 4), i);
        }
        Checks.due("room last", x.thing(0, 0, 44), -6);
        Checks.due("room last of all", x.thing(9, 0, 0), -1);
        Checks.due("room", x.thing(0, 0, 0), -7);
        Checks.due("how many", x.status(0), 16);
        for (int i = 0; i < 16; i++) {
            Checks.due("kind of " + i, x.thingOf(i, 0), i % 7);
            Checks.due("a of " + i, x.thingOf(i, 1), i % 10);
            Checks.due("cell of " + i, x.thingOf(i, 2), 10 * (i / 4) + i % 4);
            Checks.due("shut at first " + i, x.thingOf(i, 3), 1);
        }
    }

    private static void promise11Neighbour() {
        Face x = Watch.fresh();
        int[][] bad = {{0, 0}, {14, 0}, {1, -1}, {1, 21}, {LOW, 0}, {1, HIGH}};
        for (int[] b : bad) {
            Checks.due("neighbour " + b[0] + " " + b[1], x.neighbour(b[0], b[1]), -6);
        }
        for (int i = 0; i < 8; i++) {
            Checks.due("number", x.neighbour(i < 4 ? 1 : 13, i < 4 ? 0 : 20), i);
        }
        Checks.due("wrong ahead of room", x.neighbour(0, 0), -6);
        Checks.due("room", x.neighbour(1, 0), -7);
        Checks.due("how many", x.status(2), 8);
        Checks.due("channel", x.goesTo(7, 0), 13);
    }

    private static void promise12Device() {
        Face x = Watch.fresh();
        int[][] bad = {{4, 1, 1}, {-1, 1, 1}, {0, 0, 1}, {0, 6, 1}, {0, 1, 0}, {0, 1, 100}, {HIGH, 1, 1}, {0, LOW, 1}};
        for (int[] b : bad) {
            Checks.due("device", x.device(b[0], b[1], b[2]), -6);
        }
        for (int i = 0; i < 6; i++) {
            Checks.due("number", x.device(33, i < 3 ? 1 : 5, i < 3 ? 1 : 99), i);
        }
        Checks.due("wrong ahead of room", x.device(44, 1, 1), -6);
        Checks.due("room", x.device(0, 1, 1), -7);
        Checks.due("how many", x.status(3), 6);
        Checks.due("clings to box 0", x.deviceOf(5, 3), 0);
    }

    private static void promise13Box() {
        Face x = Watch.fresh();
        Checks.due("no box", x.box(2, 0), -16);
        Checks.due("no box below", x.box(-1, 0), -16);
        Checks.due("box 0 to none", x.box(0, -1), -16);
        Checks.due("outside", x.box(0, 4), -16);
        Checks.due("outside of 1", x.box(1, 40), -16);
        Checks.due("box 1 to less than none", x.box(1, -2), -16);
        Checks.due("counted as -6", x.status(16), 6);
        Checks.due("box 0 goes", x.box(0, 12), 0);
        Checks.due("and goes", x.box(0, 12), 12);
        Checks.due("box 1 comes", x.box(1, 33), -1);
        Checks.due("box 1 goes", x.box(1, 12), 33);
        Checks.due("box 0 is", x.status(7), 12);
        Checks.due("box 1 is", x.status(8), 12);
        Checks.due("box 1 to none", x.box(1, -1), 12);
        Checks.due("box 1 from none to none", x.box(1, -1), -1);
        Checks.due("box 1 is in none", x.status(8), -1);
    }

    private static void promise14Ask() {
        Face x = Watch.fresh();
        int[][] bad = {
            {0, 9}, {0, 61}, {1, 0}, {1, 14}, {2, -1}, {2, 60}, {3, 10}, {-1, 10}, {0, LOW}, {1, HIGH}, {2, LOW}};
        for (int[] b : bad) {
            Checks.due("ask " + b[0] + " " + b[1], x.ask(b[0], b[1]), -6);
        }
        Checks.due("counted", x.status(16), bad.length);
        int[][] good = {{0, 10, 50}, {0, 60, 10}, {1, 1, 6}, {1, 13, 1}, {2, 59, 0}, {2, 0, 59}};
        for (int[] g : good) {
            Checks.due("ask " + g[0] + " " + g[1], x.ask(g[0], g[1]), g[2]);
            Checks.due("it is", x.status(4 + g[0]), g[1]);
        }
    }

    private static void promise15Shut() {
        Face x = Watch.fresh();
        Checks.due("no thing", x.shut(0, true), -1);
        x.thing(0, 1, 0);
        Checks.due("below", x.shut(-1, true), -1);
        Checks.due("was shut", x.shut(0, true), 1);
        Checks.due("was shut, is opened", x.shut(0, false), 1);
        Checks.due("was open", x.shut(0, false), 0);
        Checks.due("was open, is shut", x.shut(0, true), 0);
        Checks.due("is shut", x.thingOf(0, 3), 1);
    }

    private static void promise16Move() {
        Face x = Watch.fresh();
        Checks.due("no thing, no cell", x.move(0, 99), -1);
        x.thing(0, 1, 11);
        Checks.due("no cell", x.move(0, 4), -6);
        Checks.due("below", x.move(0, -1), -6);
        Checks.due("no such thing", x.move(1, 0), -1);
        Checks.due("was", x.move(0, 33), 11);
        Checks.due("is", x.thingOf(0, 2), 33);
        Checks.due("was there", x.move(0, 33), 33);
    }

    private static void promise17ThingOf() {
        Face x = Watch.fresh();
        int[] shutLoss = {9, 12, 9, 24, 0, 4, 0};
        int[] openLoss = {9, 12, 0, 24, 0, 0, 0};
        for (int kind = 0; kind < 7; kind++) {
            x.thing(kind, 9, 21);
            Checks.due("kind", x.thingOf(kind, 0), kind);
            Checks.due("a", x.thingOf(kind, 1), 9);
            Checks.due("cell", x.thingOf(kind, 2), 21);
            Checks.due("shut", x.thingOf(kind, 3), 1);
            Checks.due("loss of a shut " + kind, x.thingOf(kind, 4), shutLoss[kind]);
            x.shut(kind, false);
            Checks.due("open", x.thingOf(kind, 3), 0);
            Checks.due("loss of an open " + kind, x.thingOf(kind, 4), openLoss[kind]);
        }
        Checks.due("another what", x.thingOf(0, 5), -5);
        Checks.due("another what below", x.thingOf(0, -1), -5);
        Checks.due("no such one", x.thingOf(7, 0), -5);
        Checks.due("no such one below", x.thingOf(-1, 9), -5);
        Checks.due("counted", x.status(15), 4);
    }

    private static void promise18DeviceOf() {
        // BARS of BOX 0 are 3 at 33; BOX 1 there has 5, half of it is 2, and BOX 0 has 3 where it stands.
        Face x = Checks.built("device 33 2 40;device 00 5 7;box 1 33");
        int[][] due = {{33, 2, 40, 0, 3, 3}, {0, 5, 7, 0, 5, 5}};
        for (int d = 0; d < 2; d++) {
            for (int what = 0; what < 6; what++) {
                Checks.due("device " + d + " " + what, x.deviceOf(d, what), due[d][what]);
            }
        }
        x.evening(1, 3);
        Checks.due("clings to box 1", x.deviceOf(0, 3), 1);
        Checks.due("its pace", x.deviceOf(0, 4), 2);
        Checks.due("the best", x.deviceOf(0, 5), 3);
        x.box(1, -1);
        Checks.due("clings still", x.deviceOf(0, 3), 1);
        Checks.due("to no box", x.deviceOf(0, 4), 0);
        Checks.due("no such one", x.deviceOf(2, 0), -5);
        Checks.due("another what", x.deviceOf(0, 6), -5);
        Checks.due("another what below", x.deviceOf(1, -1), -5);
        Checks.due("counted", x.status(15), 3);
    }

    public static void main(String[] args) {
        promise1NewObject();
        promise9Side();
        promise10Thing();
        promise11Neighbour();
        promise12Device();
        promise13Box();
        promise14Ask();
        promise15Shut();
        promise16Move();
        promise17ThingOf();
        promise18DeviceOf();
        Checks.end("HouseTest");
    }
}
