/** "3. WHAT COMES OF IT", sentence by sentence, each at its edges: what is reckoned, and what passes in truth. */
public final class EdgeOutcomeTest {
    private static void put() {
        Checks.says("PUT: the CELL for BOX 0 by which SERVED is most, of several the first (BOX 1 as it is)");
        Face x = Watch.fresh();
        x.box(0, 22);
        x.box(1, 11);
        Checks.due("no devices: the first of all", x.put(0), 0);
        Checks.due("box 0 stays", x.status(7), 22);
        x.side(8);
        x.device(77, 5, 1);
        Checks.due("the last of all", x.put(0), 77);
        x.device(0, 5, 1);
        Checks.due("of two the first", x.put(0), 0);
        x.device(77, 5, 1);
        Checks.due("of 2 and 1", x.put(0), 77);
        x.ask(0, 49);
        Checks.due("nothing can be served: the first", x.put(0), 0);
        Face y = Checks.built("device 33 4 9");
        Checks.due("the first that is near enough", y.put(0), 1);
        y.ask(0, 51);
        Checks.due("one step more makes no odds", y.put(0), 1);
        y.ask(0, 52);
        Checks.due("six steps off", y.put(0), 0);
        Checks.says("PUT 1: likewise for BOX 1.");
        Face z = Checks.built("side 8;power 30;device 77 1 9");
        Checks.due("no such box yet: where it would serve", z.put(1), 27);
        z.box(1, 77);
        Checks.due("where it stands makes no odds", z.put(1), 27);
        z.box(0, 77);
        Checks.due("box 0 serves: the first", z.put(1), 0);
        z.box(0, 0);
        z.ask(0, 10);
        Checks.due("no use anywhere: the first", z.put(1), 0);
        Checks.due("box 1 stays", z.status(8), 77);
        Checks.says("TWO: both CELLS (of all pairs) by which SERVED is most, of several the first "
            + "(by BOX 0's, then BOX 1's): 100 times the one, and the other.");
        Face w = Checks.built("side 8;power 30;device 77 1 9");
        Checks.due("box 0 in 0, box 1 in 27", w.put(2), 27);
        w.device(0, 3, 9);
        Checks.due("the same", w.put(2), 27);
        w.device(77, 3, 20);
        Checks.due("box 0 by the dearer", w.put(2), 7700);
        w.device(11, 1, 1);
        Checks.due("box 1 for the last", w.put(2), 7704);
        Checks.due("none are put", w.status(8), -1);
        Checks.due("no devices", Watch.fresh().put(2), 0);
        // Old walls all along row 1: nothing of row 0 comes through. CELLS outside, past the walls' end, are none.
        Face o = Checks.built("power 30;thing 3 9 10;thing 3 9 11;thing 3 9 12;thing 3 9 13;device 23 1 9");
        Checks.due("the first of row 1", o.put(0), 10);
        Checks.due("the first of row 1, and box 1 anywhere", o.put(2), 1000);
        Checks.says("SERVED: FILLED, if each had its BEST.");
        Checks.due("no devices", Watch.fresh().filled(1), 0);
        Checks.says("BEST of a DEVICE: the greater PACE of both BOXES where it is.");
        Face v = Checks.built("power 30;box 1 33;device 33 1 9;device 00 1 9");
        Checks.due("1 of each", v.deviceOf(0, 5), 1);
        Checks.due("3 of box 0", v.deviceOf(1, 5), 3);
        Face u = Checks.built("side 8;power 30;box 1 15;device 65 1 10");
        Checks.due("none of box 0", u.deviceOf(0, 4), 0);
        Checks.due("1 of box 1", u.deviceOf(0, 5), 1);
        u.box(1, 65);
        Checks.due("box 1 too far from box 0", u.deviceOf(0, 5), 0);
    }

    private static void channel() {
        Checks.says("CHANNEL that is best: of least DIN, of several the first.");
        Face x = Watch.fresh();
        Checks.due("no neighbours: the first", x.channel(), 1);
        int[] on = {1, 6, 11};
        for (int c : on) {
            x.neighbour(c, 20);
        }
        Checks.due("20 everywhere, but 16 at 12 and 12 at 13", x.channel(), 13);
        Face y = Watch.fresh();
        y.neighbour(1, 20);
        y.neighbour(5, 20);
        y.neighbour(8, 20);
        Checks.due("the last of all", y.channel(), 13);
        y.neighbour(13, 1);
        Checks.due("1 there, 4 at 12", y.channel(), 13);
        y.neighbour(13, 8);
        Checks.due("9 there, 10 at 12", y.channel(), 13);
        y.neighbour(13, 5);
        Checks.due("14 there, 14 at 12: of several the first", y.channel(), 12);
        Face z = Watch.fresh();
        z.ask(1, 1);
        Checks.due("the box's own makes no din", z.channel(), 1);
        for (int c = 1; c <= 8; c++) {
            z.neighbour(c, 0);
        }
        Checks.due("without noise", z.channel(), 1);
        Checks.due("the channel stays", z.status(5), 1);
    }

    private static void rests() {
        Checks.says("RESTS: all NEIGHBOURS, by numbers, in turn, go to the CHANNEL by which what the others and the BOX "
            + "(as one of NOISE 10) make there is least, of several the first, if that is less than where they are");
        Face x = Checks.built("neighbour 11 20");
        Checks.due("none where it is: it stays, though 1 has none too", x.goesTo(0, 1), 11);
        Face y = Checks.built("neighbour 10 0");
        Checks.due("2 where it is", y.goesTo(0, 1), 1);
        Face z = Checks.built("channel 1;neighbour 1 0");
        Checks.due("the first of none", z.goesTo(0, 1), 6);
        Face w = Checks.built("neighbour 6 20;neighbour 6 20");
        Checks.due("by numbers: the first", w.goesTo(0, 1), 1);
        Checks.due("the next, by where that is now", w.goesTo(1, 1), 11);
        // At 6 the 15 make 3 and the BOX 8, at 7 the BOX makes 10; with 14 at 2 it is 10 at 6 too.
        Face ten = Checks.built("channel 7;neighbour 6 0;neighbour 2 15;neighbour 12 20");
        Checks.due("the BOX is one of 10, 11 is more", ten.goesTo(0, 1), 7);
        ten = Checks.built("channel 7;neighbour 6 0;neighbour 2 14;neighbour 12 20");
        Checks.due("10 is no less than 10", ten.goesTo(0, 1), 6);
        Checks.says("(NOISE times 5 less the difference, 0 at least, by 5, cut)");
        // The BOX makes 2 at 8 and nothing at 9; there each of the four makes 4 by 5, cut.
        Face cut = Checks.built("channel 4;neighbour 3 0;neighbour 13 4;neighbour 13 4;neighbour 13 4;neighbour 13 4");
        Checks.due("cut each", cut.goesTo(0, 1), 9);
        Checks.says("whole ROUNDS (of all), till one goes by in which nobody moved (20 at most): how many ROUNDS with moves");
        Checks.due("one at rest", x.rests(), 0);
        Checks.due("one round", y.rests(), 1);
        Checks.due("one round of two", w.rests(), 1);
        int[] channels = {7, 4, 13, 7, 1, 4, 1, 10};
        int[] noises = {3, 1, 3, 7, 0, 20, 2, 5};
        Face v = Watch.fresh();
        v.ask(1, 3);
        for (int i = 0; i < 8; i++) {
            v.neighbour(channels[i], noises[i]);
        }
        Checks.due("many rounds", v.rests(), 14);
        boolean moved = false;
        for (int i = 0; i < 8; i++) {
            moved |= v.goesTo(i, 13) != v.goesTo(i, 14);
            Checks.due("at rest from 14 on", v.goesTo(i, 20), v.goesTo(i, 14));
            Checks.due("nothing is changed", v.goesTo(i, 0), channels[i]);
        }
        Checks.hold("somebody moves in the 14th", moved);
        Checks.says("NONE: it doesn't come to rest.");
        Face u = Checks.built("channel 12;neighbour 10 2;neighbour 7 0;neighbour 8 8;neighbour 13 2",
            "neighbour 7 3;neighbour 13 3;neighbour 11 3;neighbour 7 5");
        Checks.due("on and on", u.rests(), -1);
        Checks.due("that is no refusal", u.status(11), 0);
        Checks.says("RESTS: if somebody moved in the 20th ROUND, it is NONE; without NEIGHBOURS 0.");
        moved = false;
        for (int i = 0; i < 8; i++) {
            moved |= u.goesTo(i, 19) != u.goesTo(i, 20);
        }
        Checks.hold("somebody moved in the 20th", moved);
        Checks.due("without neighbours", Watch.fresh().rests(), 0);
        Checks.says("CHANNEL of a NEIGHBOUR behind n ROUNDS (0 to 20).");
        Checks.due("behind none", u.goesTo(7, 0), 7);
        Checks.due("less than none", u.goesTo(7, -1), -6);
        Checks.due("behind 21", u.goesTo(7, 21), -6);
        Checks.hold("behind 20", u.goesTo(7, 20) > 0);
        Checks.due("no such one", u.goesTo(8, 0), -1);
    }

    private static void moved() {
        Checks.says("MOVED: the THING by whose being away SERVED were most, of several the first.");
        Face x = Checks.built("device 3 5 9;power 56");
        Checks.due("no things", x.moved(), -1);
        for (int i = 0; i < 15; i++) {
            x.thing(i % 2 == 0 ? 2 : 0, 0, 1);
        }
        Checks.due("none of them matters: the first", x.moved(), 0);
        x.thing(1, 0, 2);
        Checks.due("the last of 16", x.moved(), 15);
        x.shut(14, false);
        x.move(1, 2);
        x.device(33, 5, 50);
        Checks.due("none is enough for 33", x.moved(), 15);
        Face y = Checks.built("thing 6 9 3;thing 4 9 3;minute 9;device 3 4 1");
        Checks.due("an oven that rests, a cot that hums", y.moved(), 0);
        y.ask(2, 0);
        Checks.due("neither alone: the first", y.moved(), 0);
        y.shut(0, false);
        y.move(0, 30);
        Checks.due("the oven alone", y.moved(), 1);
        Checks.due("both are there", y.status(0), 2);
    }

    private static void doors() {
        Checks.says("DOORS (8 at most: the first 8 of KINDS DOOR, GLASS by numbers): which of them SHUT (bits by their "
            + "order) so that SERVED is most, of several the least as bits.");
        Face x = Watch.fresh();
        Checks.due("no doors", x.doors(), 0);
        x.thing(0, 9, 1);
        x.thing(1, 9, 1);
        x.device(33, 5, 9);
        Checks.due("none that is a door", x.doors(), 0);
        for (int i = 0; i < 14; i++) {
            x.thing(i % 2 == 0 ? 2 : 5, 9, i % 4);
        }
        Checks.due("14, and nothing to be won", x.doors(), 0);
        for (int i = 2; i < 16; i++) {
            Checks.due("door " + i + " stays", x.thingOf(i, 3), 1);
        }
        Face y = Watch.fresh();
        for (int i = 0; i < 9; i++) {
            y.thing(2, 9, 1);
        }
        y.device(1, 1, 5);
        Checks.due("the ninth is shut still", y.doors(), 0);
        Checks.due("and would let it be served", y.filled(1), 0);
    }

    private static void count() {
        Checks.says("COUNT of CELLS with n BARS (0 to 5) at least by the better of both BOXES.");
        Face x = Watch.fresh();
        int[] due = {16, 16, 16, 16, 15, 1};
        for (int n = 0; n <= 5; n++) {
            Checks.due("count " + n, x.count(n), due[n]);
        }
        Checks.due("less than 0", x.count(-1), -6);
        Checks.due("more than 5", x.count(6), -6);
        x.box(1, 33);
        Checks.due("by box 1 too", x.count(5), 2);
        x.box(1, 0);
        Checks.due("each cell once", x.count(5), 1);
        x.side(8);
        x.ask(0, 10);
        Checks.due("no bars at least: all", x.count(0), 64);
        Checks.due("one bar", x.count(1), 1);
        x.neighbour(6, 1);
        Checks.due("none with one", x.count(1), 0);
    }

    private static void fits() {
        Checks.says("FITS: a ROW of pairs (a CELL, BARS of BOX 0 there), all else as it is: "
            + "how many CELLS BOX 0 may be in; the i-th.");
        Face x = Watch.fresh();
        x.box(0, 33);
        x.row(0, 0, 80);
        for (int i = 0; i < 40; i++) {
            x.set(0, 2 * i + 1, 5);
        }
        Checks.due("40 pairs", x.fits(0, 40, -1), 1);
        Checks.due("where it fits, not where it is", x.fits(0, 40, 0), 0);
        Checks.due("behind it", x.fits(0, 40, 1), -5);
        x.set(0, 79, 4);
        Checks.due("the 40th says no", x.fits(0, 40, -1), 0);
        Checks.due("39 say yes", x.fits(0, 39, -1), 1);
        Checks.due("none fits, no first", x.fits(0, 40, 0), -5);
        Checks.due("no pairs: all", x.fits(0, 0, -1), 16);
        for (int i = 0; i < 16; i++) {
            Checks.due("in order " + i, x.fits(0, 0, i), 10 * (i / 4) + i % 4);
        }
        Checks.due("behind all", x.fits(0, 0, 16), -5);
        Checks.due("ahead of all", x.fits(0, 0, -2), -5);
        x.row(1, 0, 0);
        Checks.due("no pairs of an empty row", x.fits(1, 0, -1), 16);
        Checks.due("one of an empty row", x.fits(1, 1, -1), -5);
        Face y = Watch.fresh();
        Checks.fill(y, 0, 1, 0, 0, 33, 5);
        y.ask(0, 15);
        // 15 less 2 for each step: 1 bar up to two steps off, none from three on.
        Checks.due("0 bars there", y.fits(0, 1, -1), 10);
        Checks.due("the first of them", y.fits(0, 1, 0), 3);
        Checks.due("5 bars can't be", y.fits(0, 2, -1), 0);
    }

    private static void next() {
        Checks.says("NEXT: the CELL at which to measure BARS so that, of those that FIT, in the worst case fewest are "
            + "left, of several the first; NONE: fewer than two FIT.");
        Face x = Watch.fresh();
        x.ask(0, 10);
        // 10 has 1 bar in its own cell alone, so each pair of 0 takes one cell away.
        x.row(0, 0, 32);
        for (int i = 0; i < 14; i++) {
            x.set(0, 2 * i, 10 * (i / 4) + i % 4);
        }
        Checks.due("two fit", x.fits(0, 14, -1), 2);
        Checks.due("they are told apart in the first", x.next(0, 14), 32);
        x.set(0, 28, 32);
        Checks.due("one fits", x.fits(0, 15, -1), 1);
        Checks.due("nothing to measure", x.next(0, 15), -1);
        x.set(0, 30, 33);
        Checks.due("none fits", x.fits(0, 16, -1), 0);
        Checks.due("nothing to measure then", x.next(0, 16), -1);
        x.neighbour(6, 20);
        Checks.due("no bars anywhere: all fit", x.fits(0, 16, -1), 16);
        Checks.due("no measure tells anything: the first", x.next(0, 16), 0);
        Face z = Watch.fresh();
        z.ask(0, 60);
        z.row(0, 0, 0);
        // 5 bars up to five steps off: measured in a corner 15 have 5, the one across 4; elsewhere all 16 have 5.
        Checks.due("15 of 5 are left", z.next(0, 0), 0);
        Face y = Watch.fresh();
        y.side(8);
        y.ask(0, 10);
        y.row(0, 0, 0);
        Checks.due("of all 64", y.next(0, 0), 0);
    }

    private static void near() {
        Checks.says("NEAR a CELL: the fewest steps to one with n BARS at least by the better BOX; NONE.");
        Face x = Watch.fresh();
        x.side(8);
        Checks.due("as far as can be", x.near(77, 5), 14);
        Checks.due("here", x.near(0, 5), 0);
        x.box(1, 70);
        Checks.due("by the better box", x.near(77, 5), 7);
        Checks.due("0 bars are here", x.near(77, 0), 0);
        x.ask(0, 49);
        Checks.due("none", x.near(77, 5), -1);
        Checks.due("none is no refusal", x.status(11), 0);
        Checks.due("4 bars", x.near(77, 4), 3);
        Checks.due("less than 0", x.near(0, -1), -16);
        Checks.due("more than 5", x.near(0, 6), -16);
    }

    private static void minute() {
        Checks.says("The MINUTE of the next 60 (this one first) in which SERVED is most, of several the first.");
        Checks.says("The MINUTE that is best is its number.");
        Face x = Checks.built("thing 4 9 00;device 00 4 9");
        int[][] due = {{0, 9}, {8, 9}, {9, 9}, {10, 19}, {50, 59}, {58, 59}, {59, 59}};
        for (int[] d : due) {
            x.ask(2, d[0]);
            Checks.due("from " + d[0], x.minute(), d[1]);
        }
        for (int a = 0; a <= 9; a++) {
            Face y = Watch.fresh();
            y.thing(4, a, 0);
            y.device(0, 4, 9);
            for (int from = 0; from < 60; from++) {
                y.ask(2, from);
                int quiet = from % 10 < a ? from - from % 10 + a : from;
                Checks.due("an oven of " + a + ", from " + from, y.minute(), quiet);
            }
        }
        x.device(0, 3, 1);
        x.ask(2, 4);
        Checks.due("the most, not the first", x.minute(), 9);
        x.ask(0, 39);
        Checks.due("one less than 4 bars: 3 in 9", x.minute(), 9);
        x.ask(0, 10);
        Checks.due("never: this one", x.minute(), 4);
        x.ask(0, 60);
        Checks.due("now as well as ever", x.minute(), 4);
        x.ask(2, 59);
        Checks.due("this one, the last of the hour", x.minute(), 59);
        Checks.due("the minute stays", x.status(6), 59);
    }

    private static void blame() {
        Checks.says("BLAME: of a CELL's lost STRENGTH of BOX 0, what is most: 0 steps, 1 LOSS, 2 HUM, 3 DIN, "
            + "of several the first.");
        Checks.due("nothing lost", Watch.fresh().blame(0), 0);
        // At 2, two steps off: 4 by steps, and these.
        blameBySteps();
        int[][] due = {{4, 0, 0, 0}, {5, 0, 0, 1}, {4, 0, 4, 0}, {4, 0, 5, 3}, {5, 0, 5, 1}, {5, 0, 6, 3}, {0, 1, 0, 2},
            {9, 1, 0, 2}, {0, 1, 10, 2}, {0, 1, 11, 3}, {10, 1, 10, 1}, {11, 1, 11, 1}, {11, 1, 12, 3}, {3, 0, 3, 0}};
        for (int[] d : due) {
            Face x = Watch.fresh();
            for (int left = d[0]; left > 0; left -= 9) {
                x.thing(0, Math.min(9, left), 1);
            }
            if (d[1] == 1) {
                x.thing(6, 0, 2);
            }
            x.neighbour(6, d[2]);
            Checks.due("loss " + d[0] + ", hum " + 10 * d[1] + ", din " + d[2], x.blame(2), d[3]);
            x.box(1, 2);
            Checks.due("box 1 makes no odds", x.blame(2), d[3]);
        }
    }

    /** The steps take 2 each: a LOSS of as much leaves the blame with them, 1 more takes it. */
    private static void blameBySteps() {
        int[] cells = {0, 1, 2, 3, 13, 23, 33};
        for (int steps = 0; steps <= 6; steps++) {
            for (int more = 0; more <= 1; more++) {
                Face x = Watch.fresh();
                x.neighbour(6, 2 * steps + more);
                Checks.due(steps + " steps and a din of " + (2 * steps + more), x.blame(cells[steps]), 3 * more);
                Face y = Watch.fresh();
                for (int left = 2 * steps + more; left > 0; left -= 9) {
                    y.thing(0, Math.min(9, left), cells[steps]);
                }
                Checks.due(steps + " steps and a loss of " + (2 * steps + more), y.blame(cells[steps]), steps == 0 ? 0 : more);
            }
        }
    }

    private static void walk() {
        Checks.says("A told WALK: a ROW of CELLS, one beside the other (up, down, left, right, or the same): WRONG: the "
            + "first that is none, or isn't beside the one ahead; NONE.");
        Face x = Watch.fresh();
        x.side(8);
        int[][] steps = {{1, 1}, {-1, 1}, {10, 1}, {-10, 1}, {0, 1}, {2, 0}, {-2, 0}, {20, 0}, {-20, 0}, {11, 0}, {-11, 0},
            {9, 0}, {-9, 0}, {44, 0}, {-33, 0}};
        x.row(0, 2, 3);
        x.set(0, 0, 33);
        for (int[] s : steps) {
            x.set(0, 1, 33 + s[0]);
            x.set(0, 2, 33 + s[0]);
            Checks.due("a step of " + s[0], x.judge(0, 3), s[1] == 1 ? -1 : 1);
        }
        Face y = Watch.fresh();
        y.row(0, 2, 41);
        Checks.due("40 of them, all the same", y.judge(0, 40), -1);
        Checks.due("41", y.judge(0, 41), -16);
        Checks.due("none", y.judge(0, 0), -1);
        y.set(0, 39, 33);
        Checks.due("the last of 40", y.judge(0, 40), 39);
        Checks.due("39 of them", y.judge(0, 39), -1);
        y.set(0, 0, 4);
        Checks.due("the first is none", y.judge(0, 40), 0);
        Checks.due("the first alone", y.judge(0, 1), 0);
        y.set(0, 0, -1);
        Checks.due("the first is below", y.judge(0, 1), 0);
        y.set(0, 0, 33);
        Checks.due("one alone is beside all", y.judge(0, 1), -1);
        Checks.due("the next isn't beside it", y.judge(0, 2), 1);
        Checks.fill(y, 1, 2, 3, 4, 14);
        Checks.due("beside, and none", y.judge(1, 3), 1);
        Checks.fill(y, 1, 2, 3, 10);
        Checks.due("3 and 10 aren't beside each other", y.judge(1, 2), 1);
        y.row(2, 0, 0);
        Checks.due("an empty row", y.judge(2, 0), -1);
        Checks.due("one of an empty row", y.judge(2, 1), -15);
    }

    private static void hops() {
        Checks.says("HOPS of it by a rule of n: how often one who CLINGS to BOX 0 at first changes BOXES "
            + "(at each CELL once, LETTING GO, by BARS there).");
        Face x = Watch.fresh();
        x.row(0, 0, 40);
        Checks.due("no cells", x.hops(0, 0, 4), 0);
        Checks.due("no box 1", x.hops(0, 40, 4), 0);
        // BOX 0 has 5 in 0 alone, BOX 1 in 1 alone: to and fro, a hop at each cell but the first.
        x.box(1, 1);
        for (int i = 0; i < 40; i++) {
            x.set(0, i, i % 2);
        }
        Checks.due("40 cells", x.hops(0, 40, 4), 39);
        Checks.due("4 bars are enough by 3", x.hops(0, 40, 3), 0);
        Checks.due("one cell", x.hops(0, 1, 4), 0);
        Checks.due("two cells", x.hops(0, 2, 4), 1);
        x.box(0, 1);
        x.box(1, 0);
        Checks.due("at the first cell too", x.hops(0, 40, 4), 40);
        Checks.due("at the first cell alone", x.hops(0, 1, 4), 1);
        Checks.says("CALM: the greatest n (0 to 4) by which HOPS are fewest.");
        Checks.due("3", x.hops(0, 40, -1), 3);
        Checks.due("no cells: 4", x.hops(0, 0, -1), 4);
        x.ask(0, 20);
        Checks.due("2 and 1: by 0", x.hops(0, 40, -1), 0);
        x.ask(0, 10);
        Checks.due("1 and 0: never calm", x.hops(0, 40, 0), 40);
        Checks.due("40 by each: the greatest", x.hops(0, 40, -1), 4);
        x.box(1, -1);
        Checks.due("no box 1: the greatest", x.hops(0, 40, -1), 4);
        Checks.due("rule 5", x.hops(0, 40, 5), -6);
        Checks.due("rule -2", x.hops(0, 40, -2), -6);
    }

    private static void inTruth() {
        Checks.says("IN TRUTH: MINUTES pass (modulo 60), each DEVICE LETS GO by a rule in each.");
        Face x = Watch.fresh();
        x.ask(2, 59);
        x.evening(1, 0);
        Checks.due("59 and one", x.status(6), 0);
        x.evening(60, 0);
        Checks.due("60 more", x.status(6), 0);
        x.evening(59, 0);
        Checks.due("59 more", x.status(6), 59);
        x.evening(2, 4);
        Checks.due("2 more", x.status(6), 1);
        Checks.says("n MINUTES (1 to 60) pass in truth by a rule (0 to 4): FILLED then. -6.");
        int[][] bad = {{0, 0}, {61, 0}, {1, -1}, {1, 5}, {-1, 0}};
        for (int[] b : bad) {
            Checks.due("evening " + b[0] + " " + b[1], x.evening(b[0], b[1]), -6);
        }
        Checks.due("no devices", x.evening(60, 4), 0);
        // Both boxes are a step off 0 and five off 33; then BOX 1 comes to 0, where something swallows 9.
        Face y = Checks.built("box 0 10;box 1 1;device 00 1 5;device 33 1 9;thing 0 9 0");
        Checks.due("as many by both", y.evening(60, 4), 14);
        Checks.due("it stays", y.deviceOf(0, 3), 0);
        y.box(1, 0);
        Checks.due("all devices", y.evening(1, 4), 14);
        Checks.due("one goes", y.deviceOf(0, 3), 1);
        Checks.due("the other doesn't", y.deviceOf(1, 3), 0);
        // 52 and 60 are 5 bars each; while the oven hums 32 and 40 are 3 and 4.
        Face z = Checks.built("power 60;box 0 00;box 1 13;device 13 3 7;thing 4 1 13;minute 1");
        Checks.due("9 minutes without hum: the hum comes in the ninth", z.evening(8, 4), 7);
        Checks.due("it clings to box 0", z.deviceOf(0, 3), 0);
        Checks.due("in the minute of the hum box 1 has more", z.evening(1, 4), 0);
        Checks.due("it let go", z.deviceOf(0, 3), 1);
        Checks.due("and stays when the hum is over", z.evening(1, 4), 0);
        Checks.due("with box 1", z.deviceOf(0, 3), 1);
    }

    /** What a device in 3 gets falls from 4 bars to 3, by a loss, a hum or a din: each call tells it at once. */
    private static void asItStands() {
        Checks.says("WHAT COMES OF IT: of the house as it stands now, whatever was asked ahead");
        Face x = Checks.built("device 3 4 7;thing 0 0 33");
        Checks.fill(x, 0, 0, 3, 4);
        Checks.due("asked ahead", x.bars(0, 3, 1), 4);
        Face loss = Watch.twin(x);
        loss.thing(0, 5, 2);
        Face cot = Watch.twin(x);
        cot.thing(6, 9, 13);
        Face din = Watch.twin(x);
        din.neighbour(6, 5);
        Face[] houses = {x, loss, cot, din};
        int[] one = {4, 3, 3, 3};
        for (int h = 0; h < 4; h++) {
            Checks.onlyTells("bars", houses[h], y -> y.bars(0, 3, 1), one[h]);
            Checks.onlyTells("pace", houses[h], y -> y.bars(0, 3, 2), one[h]);
            Checks.onlyTells("strength", houses[h], y -> y.bars(0, 3, 0), h == 0 ? 44 : 39);
            Checks.onlyTells("deviceOf, pace", houses[h], y -> y.deviceOf(0, 4), one[h]);
            Checks.onlyTells("deviceOf, best", houses[h], y -> y.deviceOf(0, 5), one[h]);
            Checks.onlyTells("filled", houses[h], y -> y.filled(0), h == 0 ? 7 : 0);
            Checks.onlyTells("served", houses[h], y -> y.filled(1), h == 0 ? 7 : 0);
            Checks.onlyTells("put", houses[h], y -> y.put(0), h == 0 ? 0 : 1);
            Checks.onlyTells("put 1", houses[h], y -> y.put(1), 0);
            Checks.onlyTells("two", houses[h], y -> y.put(2), h == 0 ? 0 : 100);
            Checks.onlyTells("near", houses[h], y -> y.near(3, 4), h == 0 ? 0 : 1);
            Checks.onlyTells("moved", houses[h], Face::moved, h == 1 || h == 2 ? 1 : 0);
            Checks.onlyTells("count", houses[h], y -> y.count(4), new int[] {15, 14, 11, 6}[h]);
            Checks.onlyTells("fits", houses[h], y -> y.fits(0, 1, -1), new int[] {14, 13, 6, 6}[h]);
            Checks.onlyTells("blame", houses[h], y -> y.blame(1), new int[] {0, 0, 0, 3}[h]);
            Checks.onlyTells("blame of 2", houses[h], y -> y.blame(2), new int[] {0, 1, 0, 3}[h]);
            Checks.onlyTells("blame of 13", houses[h], y -> y.blame(13), new int[] {0, 0, 2, 0}[h]);
            Face two = Watch.twin(houses[h]);
            two.box(1, 13);
            Checks.onlyTells("hops", two, y -> y.hops(0, 1, 3), h == 0 ? 0 : 1);
            two.evening(1, 3);
            Checks.due("clings", two.deviceOf(0, 3), h == 0 ? 0 : 1);
        }
        Face oven = Watch.twin(x);
        oven.thing(4, 5, 13);
        Checks.onlyTells("minute", x, Face::minute, 0);
        Checks.onlyTells("minute with an oven", oven, Face::minute, 5);
        Checks.onlyTells("moved with an oven", oven, Face::moved, 1);
        Face last = Watch.twin(loss);
        last.minute();
        last.move(1, 33);
        Checks.due("put when it is away", last.put(0), 0);
        last.move(1, 2);
        Checks.due("doors when it is back", last.doors(), 0);
        Checks.due("put when it is back", last.put(0), 1);
    }

    public static void main(String[] args) {
        put();
        channel();
        rests();
        moved();
        doors();
        count();
        fits();
        next();
        near();
        minute();
        blame();
        walk();
        hops();
        inTruth();
        asItStands();
        Checks.end("EdgeOutcomeTest");
    }
}
