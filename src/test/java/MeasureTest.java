/** Promises 32 to 34 and 36 to 38: measures, near, blame and told walks. */
public final class MeasureTest {
    private static final int LOW = Integer.MIN_VALUE;
    private static final int HIGH = Integer.MAX_VALUE;

    private static void promise32Fits() {
        Face x = Watch.fresh();
        Checks.fill(x, 0, 2, 0, 5, 33, 3);
        Checks.due("no pairs: all", x.fits(0, 0, -1), 16);
        Checks.due("the last of all", x.fits(0, 0, 15), 33);
        Checks.due("the first of the second row", x.fits(0, 0, 4), 10);
        Checks.due("behind the last", x.fits(0, 0, 16), -5);
        Checks.due("one pair", x.fits(0, 1, -1), 1);
        Checks.due("it is 0", x.fits(0, 1, 0), 0);
        Checks.due("both", x.fits(0, 2, 0), 0);
        Checks.due("no second", x.fits(0, 2, 1), -5);
        Checks.due("below NONE", x.fits(0, 2, -2), -5);
        x.set(0, 3, 4);
        Checks.due("against each other", x.fits(0, 2, -1), 0);
        Checks.due("no first", x.fits(0, 2, 0), -5);
        Checks.due("box 0 stays", x.status(7), 0);
        Checks.fill(x, 1, 3, (7L << 32) + 11, (9L << 40) + 4);
        // Steps 1 to 5 from 11: all of 16 but 11 itself.
        Checks.due("by the lowest 32 bits", x.fits(1, 1, -1), 15);
        Checks.due("the one behind 10", x.fits(1, 1, 5), 12);
        refusals(x);
        Face y = Checks.built("thing 1 4 1;thing 4 9 2;neighbour 6 5");
        Checks.fill(y, 0, 0, 2, 2);
        // At 2: 50 - 20 - 5 = 25 less steps and losses: 20 and more up to two steps off, but for 0 behind the wall.
        Checks.due("with losses, hum and din", y.fits(0, 1, -1), 7);
        int[] due = {1, 2, 3, 11, 12, 13, 22};
        for (int i = 0; i < due.length; i++) {
            Checks.due("fits " + i, y.fits(0, 1, i), due[i]);
        }
        y.box(1, 3);
        Checks.due("BOX 1 makes no odds", y.fits(0, 1, -1), 7);
    }

    private static void refusals(Face x) {
        x.thing(0, 0, 0);
        x.show(2, 0);
        Checks.due("no shelf", x.fits(8, -1, 9), -1);
        Checks.due("a thing", x.fits(2, -1, 9), -2);
        Checks.due("nothing", x.fits(3, -1, 9), -3);
        Checks.due("below", x.fits(0, -1, 99), -4);
        Checks.due("far below", x.fits(0, LOW, 99), -4);
        Checks.due("fewer elements", x.fits(0, 3, -1), -5);
        Checks.due("far fewer", x.fits(0, HIGH, -1), -5);
        Checks.due("fewer, and 41", x.fits(0, 41, -1), -5);
        x.row(4, 2, 81);
        Checks.due("fewer by one", x.fits(4, 41, -1), -5);
        x.row(4, 2, 82);
        Checks.due("41", x.fits(4, 41, -1), -6);
        Checks.due("41, and no such i", x.fits(4, 41, -2), -6);
        Checks.due("40", x.fits(4, 40, -1), 0);
        Checks.fill(x, 5, 2, 44, 3, 0, 6, 0, -1, -1, 0);
        for (int i = 0; i < 4; i++) {
            x.copy(5, 0, 2 * i, 0, 2);
            Checks.due("no cell, no bars " + i, x.fits(0, 1, -1), -6);
            Checks.due("no such i of those " + i, x.fits(0, 1, 99), -6);
        }
        x.set(0, 0, 0);
        x.set(0, 1, 5);
        x.set(0, 2, 4);
        Checks.due("the wrong one is behind", x.fits(0, 1, -1), 1);
        Checks.due("the wrong one is told", x.fits(0, 2, -1), -6);
    }

    private static void promise33Next() {
        Face x = Watch.fresh();
        Checks.fill(x, 0, 2, 33, 4, 32, 4, 30, 5);
        Checks.due("measured at 0: 1, 14 and 1", x.next(0, 0), 0);
        x.ask(0, 44);
        // Measured at 0: 4 up to two steps off (6), 3 else (10). At 1: 4 in 00, 01, 02, 03, 10, 11, 12, 21: 8.
        Checks.due("half and half", x.next(0, 0), 1);
        x.ask(0, 50);
        Checks.due("one fits", x.next(0, 3), -1);
        Checks.due("it is 30", x.fits(0, 3, 0), 30);
        x.set(0, 5, 0);
        Checks.due("none fits at all", x.next(0, 3), -1);
        Checks.due("nothing refused", x.status(15), 0);
        Face y = Checks.built("power 10");
        Checks.fill(y, 0, 2, 0, 0, 1, 0);
        // 10 has 1 bar in its own cell alone: any measure leaves all but one, so the first; a cell that can't be
        // BOX 0's leaves all.
        Checks.due("the first that takes one away", y.next(0, 2), 2);
        Checks.due("two less", y.fits(0, 2, -1), 14);
        Face z = Watch.fresh();
        z.thing(0, 0, 0);
        z.show(2, 0);
        z.row(0, 2, 4);
        Checks.due("no shelf", z.next(8, -1), -11);
        Checks.due("a thing", z.next(2, -1), -12);
        Checks.due("nothing", z.next(3, -1), -13);
        Checks.due("below", z.next(0, -1), -14);
        Checks.due("fewer", z.next(0, 3), -15);
        z.row(0, 2, 82);
        Checks.due("41", z.next(0, 41), -16);
        z.set(0, 0, 40);
        Checks.due("no cell", z.next(0, 1), -16);
        z.set(0, 0, 0);
        z.set(0, 1, 6);
        Checks.due("no bars", z.next(0, 1), -16);
        int[] counts = {1, 1, 1, 1, 1, 3, 0};
        for (int i = 0; i < 7; i++) {
            Checks.due("counted " + (i + 1), z.status(11 + i), counts[i]);
        }
    }

    private static void promise34Near() {
        Face x = Watch.fresh();
        Checks.due("here", x.near(0, 5), 0);
        Checks.due("at the box", x.near(33, 5), 6);
        Checks.due("a step nearer", x.near(33, 4), 1);
        Checks.due("enough", x.near(33, 3), 0);
        x.box(1, 32);
        Checks.due("by the better box", x.near(33, 5), 1);
        x.ask(0, 10);
        Checks.due("none", x.near(33, 2), -1);
        Checks.due("steps go through walls", x.near(33, 1), 1);
        x.neighbour(6, 20);
        Checks.due("none in the din", x.near(0, 1), -1);
        Checks.due("no bars are always near", x.near(0, 0), 0);
        Checks.due("no cell", x.near(4, 0), -16);
        Checks.due("no cell below", x.near(-1, 0), -16);
        Checks.due("bars below", x.near(0, -1), -16);
        Checks.due("bars beyond", x.near(0, 6), -16);
        Checks.due("counted as -6", x.status(16), 4);
    }

    private static void promise36Blame() {
        Face x = Watch.fresh();
        Checks.due("nothing lost", x.blame(0), 0);
        x.thing(0, 4, 2);
        Checks.due("4 and 4: the steps", x.blame(2), 0);
        x.thing(0, 1, 1);
        Checks.due("5: the loss", x.blame(2), 1);
        x.thing(4, 9, 3);
        Checks.due("the hum of 15", x.blame(2), 2);
        x.thing(0, 9, 1);
        x.thing(0, 1, 1);
        Checks.due("15 and 15: the loss", x.blame(2), 1);
        x.neighbour(6, 15);
        Checks.due("15 all: the loss", x.blame(2), 1);
        Checks.due("at 3 the hum of 20", x.blame(3), 2);
        x.neighbour(6, 5);
        Checks.due("20 and 20: the hum", x.blame(3), 2);
        x.neighbour(6, 1);
        Checks.due("the din", x.blame(3), 3);
        Checks.due("the din at home", x.blame(0), 3);
        x.box(1, 3);
        x.box(0, 3);
        Checks.due("of BOX 0", x.blame(33), 3);
        x.ask(1, 1);
        x.ask(2, 9);
        Checks.due("off the din: 6 and nothing", x.blame(33), 0);
        x.ask(0, 10);
        Checks.due("all of it, not what was there", x.blame(1), 1);
        Checks.due("no cell", x.blame(40), -6);
        Checks.due("no cell below", x.blame(-1), -6);
        Checks.due("counted", x.status(16), 2);
    }

    private static void promise37Judge() {
        Face x = Watch.fresh();
        Checks.fill(x, 0, 3, 0, 1, 11, 21, (3L << 32) + 21, 20, 33, 99);
        Checks.due("none told", x.judge(0, 0), -1);
        Checks.due("a good one", x.judge(0, 6), -1);
        Checks.due("too far", x.judge(0, 7), 6);
        Checks.due("the first", x.judge(0, 8), 6);
        Checks.fill(x, 1, 0, 4, 0, 11);
        Checks.due("no cell ahead", x.judge(1, 3), 0);
        x.set(1, 0, 3);
        Checks.due("from 3 to 0", x.judge(1, 3), 1);
        x.set(1, 0, 0);
        Checks.due("aslant", x.judge(1, 3), 2);
        Checks.fill(x, 1, 1, 3, -1, 10);
        Checks.due("no cell", x.judge(1, 3), 1);
        Checks.fill(x, 1, 1, 3, 10);
        Checks.due("10 is not behind 3", x.judge(1, 2), 1);
        x.thing(0, 0, 0);
        x.show(2, 0);
        Checks.due("no shelf", x.judge(-1, -1), -11);
        Checks.due("a thing", x.judge(2, -1), -12);
        Checks.due("nothing", x.judge(3, -1), -13);
        Checks.due("below", x.judge(0, -1), -14);
        Checks.due("fewer", x.judge(0, 9), -15);
        Checks.due("fewer, and 41", x.judge(0, 41), -15);
        x.row(4, 2, 41);
        Checks.due("41", x.judge(4, 41), -16);
        Checks.due("40", x.judge(4, 40), -1);
        int[] counts = {1, 1, 1, 1, 2, 1, 0};
        for (int i = 0; i < 7; i++) {
            Checks.due("counted " + (i + 1), x.status(11 + i), counts[i]);
        }
    }

    private static void promise38Hops() {
        Face x = Watch.fresh();
        Checks.fill(x, 0, 3, 0, 1, 2, 3, 2, 1, (1L << 32), 44);
        for (int rule = 0; rule <= 4; rule++) {
            Checks.due("no other box, rule " + rule, x.hops(0, 7, rule), 0);
        }
        Checks.due("calm", x.hops(0, 7, -1), 4);
        x.box(1, 3);
        // BOX 0: 5 4 4 4 along the row, BOX 1: 4 4 4 5.
        Checks.due("there and back", x.hops(0, 7, 4), 2);
        Checks.due("more patience", x.hops(0, 7, 3), 0);
        Checks.due("calm with it", x.hops(0, 7, -1), 3);
        Checks.due("there", x.hops(0, 4, 4), 1);
        x.ask(0, 32);
        // BOX 0: 3 3 2 2, BOX 1: 2 2 3 3.
        Checks.due("at 2, then at 1", x.hops(0, 7, 2), 2);
        Checks.due("not by 1", x.hops(0, 7, 1), 0);
        Checks.due("calm by 1", x.hops(0, 7, -1), 1);
        x.box(0, 33);
        x.box(1, 0);
        x.ask(0, 60);
        Checks.due("the first cell counts", x.hops(0, 1, 4), 1);
        x.device(0, 1, 1);
        Checks.due("nothing is changed", x.deviceOf(0, 3), 0);
        Checks.due("no cells: calm", x.hops(0, 0, -1), 4);
        x.thing(0, 0, 0);
        x.show(2, 0);
        Checks.due("no shelf", x.hops(8, -1, 9), -1);
        Checks.due("a thing", x.hops(2, -1, 9), -2);
        Checks.due("nothing", x.hops(3, -1, 9), -3);
        Checks.due("below", x.hops(0, -1, 9), -4);
        Checks.due("fewer", x.hops(0, 9, 9), -5);
        x.row(4, 2, 41);
        Checks.due("41", x.hops(4, 41, 0), -6);
        Checks.due("40", x.hops(4, 40, 0), 0);
        Checks.due("a wrong one", x.hops(0, 8, 0), -6);
        Checks.due("a wrong one, calm", x.hops(0, 8, -1), -6);
        Checks.due("another rule", x.hops(0, 7, 5), -6);
        Checks.due("another rule below", x.hops(0, 7, -2), -6);
        int[] counts = {1, 1, 1, 1, 1, 5, 0};
        for (int i = 0; i < 7; i++) {
            Checks.due("counted " + (i + 1), x.status(11 + i), counts[i]);
        }
    }

    public static void main(String[] args) {
        promise32Fits();
        promise33Next();
        promise34Near();
        promise36Blame();
        promise37Judge();
        promise38Hops();
        Checks.end("MeasureTest");
    }
}
