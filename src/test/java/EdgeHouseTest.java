/** "1. THE HOUSE", sentence by sentence, each at its edges; what of it texts are is in TextTest. */
public final class EdgeHouseTest {
    private static final int LOW = Integer.MIN_VALUE;
    private static final int HIGH = Integer.MAX_VALUE;

    private static void side() {
        Checks.says("SIDE 2 to 8 (4 at first).");
        Face x = Watch.fresh();
        Checks.due("at first", x.status(1), 4);
        for (int n : new int[] {LOW, -1, 0, 1, 2, 3, 9, 10, HIGH}) {
            Checks.due("side " + n, x.side(n), -6);
        }
        Checks.due("side stays", x.status(1), 4);
        for (int n = 4; n <= 8; n++) {
            Checks.due("as many", x.side(n), n == 4 ? 4 : n - 1);
            Checks.due("as many again", x.side(n), n);
            Checks.due("one less", x.side(n - 1), -6);
            Checks.due("one more than may be", x.side(9), -6);
            Checks.due("side is", x.status(1), n);
        }
        Checks.due("from 4 to 8 at once", Watch.fresh().side(8), 4);
    }

    private static void cells() {
        Checks.says("CELLS: 10 times the ROW and the COLUMN (0 to SIDE less 1 each).");
        for (int side = 4; side <= 8; side++) {
            Face x = Watch.fresh();
            x.side(side);
            x.thing(0, 0, 0);
            for (int cell = -12; cell <= 112; cell++) {
                boolean is = cell >= 0 && cell / 10 < side && cell % 10 < side;
                int was = x.thingOf(0, 2);
                Checks.due("side " + side + ", move to " + cell, x.move(0, cell), is ? was : -6);
                Checks.due("it is in", x.thingOf(0, 2), is ? cell : was);
            }
        }
        for (int cell : new int[] {LOW, LOW + 10, -100, -10, -1, 4, 9, 34, 39, 40, 43, 44, 100, 110, 1000, HIGH - 7, HIGH}) {
            Face x = Watch.fresh();
            x.thing(0, 0, 0);
            Checks.due("thing in " + cell, x.thing(0, 0, cell), -6);
            Checks.due("device in " + cell, x.device(cell, 1, 1), -6);
            Checks.due("box 0 in " + cell, x.box(0, cell), -16);
            Checks.due("box 1 in " + cell, x.box(1, cell), cell == -1 ? -1 : -16);
            Checks.due("move to " + cell, x.move(0, cell), -6);
            Checks.due("bars at " + cell, x.bars(0, cell, 0), -6);
            Checks.due("bars of no box at " + cell, x.bars(1, cell, 0), -6);
            Checks.due("way from " + cell, x.way(cell, 0, 0), -6);
            Checks.due("way to " + cell, x.way(0, cell, 1), -6);
            Checks.due("hum at " + cell, x.hum(cell, 0), -6);
            Checks.due("din at " + cell, x.hum(cell, 1), -6);
            Checks.due("near " + cell, x.near(cell, 0), -16);
            Checks.due("blame " + cell, x.blame(cell), -6);
        }
        Face x = Watch.fresh();
        Checks.due("outside", x.device(44, 1, 1), -6);
        x.side(5);
        Checks.due("inside by then", x.device(44, 1, 1), 0);
        Checks.due("a row's end", x.way(0, 4, 0), 4);
        Checks.due("a column's end", x.way(0, 40, 0), 4);
        Checks.due("from a row's end to the next's beginning", x.way(4, 10, 0), 5);
    }

    private static void things() {
        Checks.says("THINGS have numbers, from 0 on, 16 at most");
        Face x = Watch.fresh();
        Checks.due("none at first", x.status(0), 0);
        Checks.due("no thing 0 yet", x.thingOf(0, 0), -5);
        for (int i = 0; i < 16; i++) {
            Checks.due("thing " + i, x.thing(i % 7, 0, 0), i);
            Checks.due("the next isn't there", x.thingOf(i + 1, 0), -5);
            Checks.due("how many", x.status(0), i + 1);
        }
        Checks.due("a 17th", x.thing(0, 0, 0), -7);
        Checks.due("still 16", x.status(0), 16);
        Checks.due("the last one", x.thingOf(15, 0), 1);
        Checks.says("each of a KIND: 0 THING; 1 WALL, 2 DOOR, 4 OVEN, each under THING; 3 OLD, under WALL; "
            + "5 GLASS, under DOOR; 6 COT, under OVEN");
        boolean[][] under = {
            {true, false, false, false, false, false, false}, {true, true, false, false, false, false, false},
            {true, false, true, false, false, false, false}, {true, true, false, true, false, false, false},
            {true, false, false, false, true, false, false}, {true, false, true, false, false, true, false},
            {true, false, false, false, true, false, true}};
        Face y = Watch.fresh();
        for (int kind = 0; kind < 7; kind++) {
            y.thing(kind, 0, 0);
            y.show(0, kind);
            for (int asked = 0; asked < 7; asked++) {
                Checks.due("a " + kind + " is a " + asked, y.says(0, asked) == -2 ? 0 : 1, under[kind][asked] ? 1 : 0);
            }
        }
        for (int kind : new int[] {LOW, -1, 7, HIGH}) {
            Checks.due("kind " + kind, y.thing(kind, 0, 0), -1);
        }
        Checks.says("a (0 to 9)");
        for (int a : new int[] {LOW, -1, 10, HIGH}) {
            Checks.due("a " + a, y.thing(0, a, 0), -6);
        }
        Checks.due("a 0", y.thing(0, 0, 0), 7);
        Checks.due("a 9", y.thing(0, 9, 0), 8);
        Checks.due("is 0", y.thingOf(7, 1), 0);
        Checks.due("is 9", y.thingOf(8, 1), 9);
    }

    private static void severalInOne() {
        Checks.says("a CELL (several may be in one)");
        Face x = Watch.fresh();
        for (int i = 0; i < 16; i++) {
            x.thing(0, 9, 1);
        }
        for (int i = 0; i < 6; i++) {
            Checks.due("devices too", x.device(1, 1, 99), i);
        }
        x.box(0, 1);
        x.box(1, 1);
        Checks.due("all swallow", x.way(0, 1, 1), 144);
        Checks.due("the first", x.thingOf(0, 2), 1);
        Checks.due("the last", x.thingOf(15, 2), 1);
        Checks.due("the boxes are there", x.status(7) + x.status(8), 2);
        Checks.due("the devices have it", x.filled(0), 594);
    }

    private static void shutAtFirst() {
        Checks.says("SHUT or open (shut at first)");
        Face x = Watch.fresh();
        for (int kind = 0; kind < 7; kind++) {
            int i = x.thing(kind, 4, 0);
            Checks.due("shut at first " + kind, x.thingOf(i, 3), 1);
            Checks.due("was shut", x.shut(i, false), 1);
            Checks.due("is open", x.thingOf(i, 3), 0);
        }
        Face y = Watch.fresh();
        y.image();
        y.thing(2, 9, 0);
        y.shut(0, false);
        y.restore();
        Checks.due("the same number anew", y.thing(2, 9, 0), 0);
        Checks.due("it is shut at first", y.thingOf(0, 3), 1);
        Checks.due("one by a text", Checks.built("thing 5 1 0").thingOf(0, 3), 1);
    }

    private static void boxes() {
        Checks.says("BOXES: 0, and 1 (if there is one): a CELL each, BOX 0 in CELL 0 at first, BOX 1 in none.");
        Face x = Watch.fresh();
        Checks.due("box 0 at first", x.status(7), 0);
        Checks.due("box 1 at first", x.status(8), -1);
        Checks.due("box 1 was in none", x.box(1, 0), -1);
        Checks.due("both in one", x.status(8), 0);
        Checks.due("box 1 goes", x.box(1, 33), 0);
        Checks.due("box 1 to none", x.box(1, -1), 33);
        Checks.due("and again", x.box(1, -1), -1);
        Checks.due("box 0 never to none", x.box(0, -1), -16);
        Checks.due("it is where it was", x.box(0, 33), 0);
        for (int b : new int[] {LOW, -1, 2, HIGH}) {
            Checks.due("box " + b, x.box(b, 0), -16);
            Checks.due("box " + b + " to none", x.box(b, -1), -16);
        }
        for (int c : new int[] {LOW, -2, 4, 40, HIGH}) {
            Checks.due("box 1 to " + c, x.box(1, c), -16);
        }
        Checks.says("POWER (10 to 60; 50 at first)");
        Checks.due("at first", x.status(4), 50);
        Checks.due("too small by one", x.ask(0, 9), -6);
        Checks.due("too large by one", x.ask(0, 61), -6);
        Checks.due("least", x.ask(0, 10), 50);
        Checks.due("most", x.ask(0, 60), 10);
        Checks.due("is", x.ask(0, 60), 60);
        Checks.says("CHANNEL (1 to 13; 6 at first; of both).");
        Checks.due("at first", x.status(5), 6);
        Checks.due("too small by one", x.ask(1, 0), -6);
        Checks.due("too large by one", x.ask(1, 14), -6);
        Checks.due("least", x.ask(1, 1), 6);
        Checks.due("most", x.ask(1, 13), 1);
        Checks.due("is", x.status(5), 13);
        x.box(1, 0);
        x.neighbour(13, 20);
        Checks.due("of box 0", x.bars(0, 33, 0), 40);
        Checks.due("of box 1", x.bars(1, 0, 0), 40);
    }

    private static void neighbours() {
        Checks.says("NEIGHBOURS have numbers, from 0 on, 8 at most: CHANNEL, NOISE (0 to 20).");
        Face x = Watch.fresh();
        Checks.due("none at first", x.status(2), 0);
        Checks.due("no neighbour 0 yet", x.goesTo(0, 0), -1);
        int[][] bad = {{0, 0}, {14, 0}, {1, -1}, {1, 21}, {LOW, 20}, {HIGH, 0}, {13, LOW}, {13, HIGH}};
        for (int[] b : bad) {
            Checks.due("neighbour " + b[0] + " " + b[1], x.neighbour(b[0], b[1]), -6);
        }
        int[][] good = {{1, 0}, {13, 20}, {1, 20}, {13, 0}, {6, 1}, {7, 19}, {2, 2}, {12, 3}};
        for (int i = 0; i < 8; i++) {
            Checks.due("neighbour " + i, x.neighbour(good[i][0], good[i][1]), i);
            Checks.due("its channel", x.goesTo(i, 0), good[i][0]);
            Checks.due("the next isn't there", x.goesTo(i + 1, 0), -1);
        }
        Checks.due("a ninth", x.neighbour(1, 0), -7);
        Checks.due("a ninth that may not be", x.neighbour(1, 21), -6);
        Checks.due("still 8", x.status(2), 8);
        Face y = Watch.fresh();
        y.neighbour(6, 0);
        Checks.due("noise 0", y.hum(0, 1), 0);
        y.neighbour(6, 20);
        Checks.due("noise 20", y.hum(0, 1), 20);
        Checks.says("MINUTE (0 to 59; 0 at first).");
        Checks.due("at first", y.status(6), 0);
        Checks.due("too small by one", y.ask(2, -1), -6);
        Checks.due("too large by one", y.ask(2, 60), -6);
        Checks.due("most", y.ask(2, 59), 0);
        Checks.due("least", y.ask(2, 0), 59);
        for (int what : new int[] {LOW, -1, 3, 4, HIGH}) {
            Checks.due("ask of " + what, y.ask(what, 10), -6);
        }
    }

    private static void devices() {
        Checks.says("DEVICES have numbers, from 0 on, 6 at most: a CELL, WANT (1 to 5), WORTH (1 to 99), "
            + "the BOX they CLING to (0 at first).");
        Face x = Watch.fresh();
        Checks.due("none at first", x.status(3), 0);
        int[][] bad = {{4, 1, 1}, {0, 0, 1}, {0, 6, 1}, {0, 1, 0}, {0, 1, 100}, {-1, 1, 1}, {0, LOW, 1}, {0, 1, HIGH}};
        for (int[] b : bad) {
            Checks.due("device " + b[0] + " " + b[1] + " " + b[2], x.device(b[0], b[1], b[2]), -6);
        }
        int[][] good = {{0, 1, 1}, {33, 5, 99}, {3, 5, 1}, {30, 1, 99}, {12, 2, 50}, {21, 4, 49}};
        for (int i = 0; i < 6; i++) {
            Checks.due("device " + i, x.device(good[i][0], good[i][1], good[i][2]), i);
            for (int what = 0; what < 4; what++) {
                Checks.due("device " + i + " " + what, x.deviceOf(i, what), what < 3 ? good[i][what] : 0);
            }
            Checks.due("the next isn't there", x.deviceOf(i + 1, 0), -5);
        }
        Checks.due("a seventh", x.device(0, 1, 1), -7);
        Checks.due("a seventh that may not be", x.device(0, 6, 1), -6);
        Checks.due("still 6", x.status(3), 6);
        Face y = Checks.built("power 30;side 8;box 1 77");
        y.image();
        y.device(77, 1, 1);
        y.evening(1, 4);
        Checks.due("it clings to box 1", y.deviceOf(0, 3), 1);
        y.restore();
        Checks.due("the same number anew", y.device(77, 1, 1), 0);
        Checks.due("it clings to box 0 at first", y.deviceOf(0, 3), 0);
    }

    private static void newObject() {
        Checks.says("TwoBarsByTheWindow(): SIDE 4, BOX 0 in CELL 0, nothing else.");
        Face x = Watch.fresh();
        int[] status = {0, 4, 0, 0, 50, 6, 0, 0, -1, 1, 0, 0, 0, 0, 0, 0, 0, 0};
        for (int what = 0; what < status.length; what++) {
            Checks.due("status " + what, x.status(what), status[what]);
        }
        for (int s = 0; s < 8; s++) {
            Checks.due("shelf " + s, x.holds(s), -1);
        }
        Checks.due("fault", x.fault(), -1);
        Checks.due("trace", x.trace(0), -1);
        Checks.due("all cells have a bar", x.count(1), 16);
        Checks.due("no image", x.restore(), -6);
        Checks.due("an image of it", x.image(), 0);
        x.side(8);
        Checks.due("it is restored", x.restore(), 0);
        Checks.due("with its side", x.status(1), 4);
    }

    public static void main(String[] args) {
        side();
        cells();
        things();
        severalInOne();
        shutAtFirst();
        boxes();
        neighbours();
        devices();
        newObject();
        Checks.end("EdgeHouseTest");
    }
}
