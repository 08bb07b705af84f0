/** Promises 25 to 31 and 35: what were best. */
public final class PlanTest {
    private static void promise25Put() {
        Face x = Watch.fresh();
        Checks.due("no devices: the first", x.put(0), 0);
        Checks.due("no devices: the first for box 1", x.put(1), 0);
        Checks.due("no devices: the first pair", x.put(2), 0);
        x.device(33, 5, 10);
        Checks.due("only where it is", x.put(0), 33);
        Face y = Checks.built("device 33 4 10");
        Checks.due("five steps off", y.put(0), 1);
        y.device(30, 5, 11);
        Checks.due("30 has 44 at 33", y.put(0), 30);
        Face z = Checks.built("side 8;power 30;device 65 1 10");
        // BOX 1 is wanted five steps off 65 at most and where BOX 0 has a bar: first 15.
        Checks.due("box 1", z.put(1), 15);
        Checks.due("both", z.put(2), 15);
        Checks.due("box 0 alone", z.put(0), 1);
        z.device(77, 3, 9);
        Checks.due("with 77", z.put(2), 7700);
        Checks.due("77 by box 0", z.put(0), 77);
        z.device(0, 3, 50);
        Checks.due("0 and 65", z.put(2), 15);
        Checks.onlyTells("both", z, y2 -> y2.put(2), 15);
        z.box(1, 15);
        Checks.due("box 1 as it is", z.put(0), 0);
        Checks.due("another what", z.put(3), -5);
        Checks.due("another what below", z.put(-1), -5);
        Checks.due("counted", z.status(15), 2);
        withBoxOne();
    }

    private static void withBoxOne() {
        // 0 wants BOX 0 five steps off at most. 77 gets 1 of BOX 1 at 75, if BOX 0 is ten steps off that at most,
        // or 1 of BOX 0 itself ten steps off.
        Face x = Checks.built("side 8;power 30;device 77 1 10;device 0 2 9;box 1 75");
        Checks.due("box 0 by 0, heard at 75", x.put(0), 2);
        Checks.due("served at first", x.filled(1), 9);
        x.box(0, 2);
        Checks.due("served so", x.filled(1), 19);
        x.box(1, -1);
        Checks.due("without box 1", x.put(0), 4);
        x.box(1, 70);
        Checks.due("box 1 to where it is of use", x.put(1), 27);
    }

    private static void promise26Channel() {
        Face x = Watch.fresh();
        Checks.due("no neighbours", x.channel(), 1);
        x.neighbour(6, 10);
        Checks.due("five off", x.channel(), 1);
        x.neighbour(1, 20);
        Checks.due("off both", x.channel(), 11);
        x.neighbour(13, 5);
        Checks.due("least of all", x.channel(), 11);
        Checks.due("the box stays", x.status(5), 6);
        Face y = Checks.built("neighbour 6 4;neighbour 1 20");
        Checks.due("a din that is cut to 0", y.channel(), 10);
        Face w = Checks.built("neighbour 1 2;neighbour 7 20;neighbour 13 20");
        Checks.due("2 and 1, and much from 3 on", w.channel(), 2);
        Face z = Checks.built("neighbour 1 20;channel 13");
        Checks.due("whatever the box's channel", z.channel(), 6);
    }

    private static void promise27Rests() {
        Face x = Watch.fresh();
        Checks.due("no neighbours", x.rests(), 0);
        x.neighbour(13, 5);
        Checks.due("one at rest", x.rests(), 0);
        x.neighbour(6, 20);
        Checks.due("one moves", x.rests(), 1);
        Checks.due("nothing is changed", x.goesTo(1, 0), 6);
        Face y = Checks.built("neighbour 6 5");
        y.box(1, 0);
        Checks.due("from the box", y.rests(), 1);
        y.ask(1, 11);
        Checks.due("the box is off", y.rests(), 0);
        y.ask(1, 8);
        Checks.due("to 1", y.rests(), 1);
        Face z = Checks.built(
            "channel 12;neighbour 10 2;neighbour 7 0;neighbour 8 8;neighbour 13 2",
            "neighbour 7 3;neighbour 13 3;neighbour 11 3;neighbour 7 5");
        Checks.due("these never rest", z.rests(), -1);
        boolean moving = false;
        for (int i = 0; i < 8; i++) {
            moving |= z.goesTo(i, 19) != z.goesTo(i, 20);
        }
        Checks.hold("somebody moves in the last round", moving);
        Checks.due("nothing is refused", z.status(16) + z.status(11), 0);
    }

    private static void promise28GoesTo() {
        Face x = Checks.built("neighbour 6 20;neighbour 6 20");
        int[][] due = {{6, 6}, {1, 11}, {1, 11}};
        for (int n = 0; n < 3; n++) {
            Checks.due("the one behind " + n, x.goesTo(0, n), due[n][0]);
            Checks.due("the other behind " + n, x.goesTo(1, n), due[n][1]);
        }
        Checks.due("behind 20", x.goesTo(1, 20), 11);
        Checks.due("one round", x.rests(), 1);
        // 10 at 1 make 10, 8, 6, 4, 2, 0; the BOX at 4 makes 4, 6, 8, 10, 8, 6, 4, 2, 0.
        Face y = Checks.built("channel 4;neighbour 1 10;neighbour 5 0");
        Checks.due("away from the box", y.goesTo(0, 1), 9);
        Checks.due("no neighbour", x.goesTo(2, 99), -1);
        Checks.due("no neighbour below", x.goesTo(-1, 0), -1);
        Checks.due("rounds", x.goesTo(1, 21), -6);
        Checks.due("rounds below", x.goesTo(1, -1), -6);
        Checks.due("-1 counted", x.status(11), 2);
        Checks.due("-6 counted", x.status(16), 2);
    }

    private static void promise29Moved() {
        Face x = Watch.fresh();
        Checks.due("no things", x.moved(), -1);
        x.thing(0, 1, 30);
        x.thing(4, 9, 3);
        x.thing(3, 9, 2);
        x.device(3, 2, 5);
        Checks.due("one is not enough", x.moved(), 1);
        x.device(2, 3, 50);
        Checks.due("the old wall, more than the oven", x.moved(), 2);
        Checks.due("it is there still", x.thingOf(2, 4), 24);
        Face y = Checks.built("device 3 1 5;thing 6 0 33;thing 0 0 0");
        Checks.due("of several the first", y.moved(), 0);
        Checks.due("kinds stay", y.thingOf(0, 0), 6);
    }

    private static void promise30Doors() {
        Face x = Watch.fresh();
        Checks.due("no doors", x.doors(), 0);
        x.thing(2, 9, 1);
        x.device(1, 5, 5);
        Checks.due("least as bits", x.doors(), 0);
        x.shut(0, false);
        Checks.due("open before, the same", x.doors(), 0);
        // Shutting swallows and never helps, so the least bits are always best: all open.
        Face y = Checks.built("device 3 4 5;thing 2 9 1;thing 1 0 33;thing 5 9 2");
        Checks.due("all open", y.doors(), 0);
        Checks.due("the door is shut still", y.thingOf(0, 3), 1);
        Checks.due("the glass is shut still", y.thingOf(2, 3), 1);
    }

    private static void promise31Count() {
        Face x = Watch.fresh();
        int[] due = {16, 16, 16, 16, 15, 1};
        for (int n = 0; n <= 5; n++) {
            Checks.due("count " + n, x.count(n), due[n]);
        }
        x.box(1, 33);
        Checks.due("by the better box", x.count(4), 16);
        Checks.due("by bars, not by pace", x.count(5), 2);
        x.side(8);
        Checks.due("of more cells", x.count(0), 64);
        Checks.due("bars below", x.count(-1), -6);
        Checks.due("bars beyond", x.count(6), -6);
        Checks.due("counted", x.status(16), 2);
    }

    private static void promise35Minute() {
        Face x = Checks.built("thing 4 5 33;device 33 3 9");
        int[][] due = {{0, 5}, {4, 5}, {5, 5}, {9, 9}, {10, 15}, {54, 55}, {58, 58}, {59, 59}};
        for (int[] d : due) {
            x.ask(2, d[0]);
            Checks.due("from " + d[0], x.minute(), d[1]);
            Checks.due("the minute stays", x.status(6), d[0]);
        }
        x.move(0, 0);
        x.ask(2, 51);
        Checks.due("it makes no difference", x.minute(), 51);
        Face y = Watch.fresh();
        y.ask(2, 17);
        Checks.due("no devices: this one", y.minute(), 17);
    }

    public static void main(String[] args) {
        promise25Put();
        promise26Channel();
        promise27Rests();
        promise28GoesTo();
        promise29Moved();
        promise30Doors();
        promise31Count();
        promise35Minute();
        Checks.end("PlanTest");
    }
}
