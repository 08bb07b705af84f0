/** "2. STRENGTH", sentence by sentence, each at its edges. */
public final class EdgeStrengthTest {
    private static void lossOfThings() {
        Checks.says("LOSS of a THING: THING a; WALL a and 3; OLD twice what a WALL has; DOOR a, if it is SHUT, else 0; "
            + "GLASS half of what a DOOR has (cut); OVEN, COT 0.");
        int[] as = {0, 1, 2, 8, 9};
        int[][] shut = {{0, 1, 2, 8, 9}, {3, 4, 5, 11, 12}, {0, 1, 2, 8, 9}, {6, 8, 10, 22, 24}, {0, 0, 0, 0, 0},
            {0, 0, 1, 4, 4}, {0, 0, 0, 0, 0}};
        for (int kind = 0; kind < 7; kind++) {
            for (int k = 0; k < as.length; k++) {
                Face x = Watch.fresh();
                x.thing(kind, as[k], 1);
                String what = "kind " + kind + ", a " + as[k];
                Checks.due(what, x.thingOf(0, 4), shut[kind][k]);
                Checks.due(what + ", on the way", x.way(0, 1, 1), shut[kind][k]);
                x.shut(0, false);
                int open = kind == 2 || kind == 5 ? 0 : shut[kind][k];
                Checks.due(what + ", open", x.thingOf(0, 4), open);
                Checks.due(what + ", open, on the way", x.way(0, 1, 1), open);
            }
        }
        Checks.says("LOSS of a CELL: of all THINGS in it together.");
        Face x = Watch.fresh();
        int sum = 0;
        for (int kind = 0; kind < 7; kind++) {
            x.thing(kind, 9, 1);
            sum += shut[kind][4];
            Checks.due("all up to " + kind, x.way(0, 1, 1), sum);
        }
        // Two GLASSES of 1 are cut each: 0 and 0.
        Face y = Checks.built("thing 5 1 1;thing 5 1 1");
        Checks.due("cut each", y.way(0, 1, 1), 0);
    }

    /** From the middle of three by three (and a rim) to each corner, with one thing in one cell. */
    private static void ways() {
        Checks.says("A WAY from a CELL to another goes along the first's ROW to the other's COLUMN, then along that; "
            + "or along the first's COLUMN to the other's ROW, then along that: "
            + "LOSS of all CELLS on it but the first, that of the two WAYS which is less.");
        int[] ends = {11, 15, 51, 55};
        for (int end : ends) {
            int row = end / 10, column = end % 10;
            int down = row > 3 ? 10 : -10, across = column > 3 ? 1 : -1;
            int[] rowFirst = {33 + across, 33 + 2 * across, 33 + 2 * across + down, end};
            int[] columnFirst = {33 + down, 33 + 2 * down, 33 + 2 * down + across, end};
            for (int one : rowFirst) {
                oneCell(end, one, one == end ? 7 : 0);
                for (int other : columnFirst) {
                    Face x = Watch.fresh();
                    x.side(8);
                    x.thing(0, 7, one);
                    x.thing(0, 5, other);
                    Checks.due("33 to " + end + " by " + one + " or " + other, x.way(33, end, 1),
                        one == end && other == end ? 12 : one == end ? 7 : 5);
                }
            }
            for (int one : columnFirst) {
                oneCell(end, one, one == end ? 7 : 0);
            }
            oneCell(end, 33, 0);
            oneCell(end, 33 + down + across, 0);
            oneCell(end, end + down, 0);
            oneCell(end, end + across, 0);
            oneCell(end, 33 - across, 0);
            oneCell(end, 33 - down, 0);
        }
        Face x = Watch.fresh();
        x.thing(0, 9, 11);
        Checks.due("to itself", x.way(11, 11, 1), 0);
        Checks.due("the first isn't on it", x.way(11, 12, 1), 0);
        Checks.due("the other is", x.way(12, 11, 1), 9);
        Checks.due("along a row, both ways the same", x.way(10, 13, 1), 9);
        Checks.due("along a column, both ways the same", x.way(31, 1, 1), 9);
        Checks.due("back along the row", x.way(13, 10, 1), 9);
        Checks.due("a corner, the other way", x.way(10, 1, 1), 0);
        x.thing(0, 4, 0);
        Checks.due("both corners", x.way(10, 1, 1), 4);
    }

    private static void oneCell(int end, int cell, int due) {
        Face x = Watch.fresh();
        x.side(8);
        x.thing(0, 7, cell);
        Checks.due("33 to " + end + " with something in " + cell, x.way(33, end, 1), due);
    }

    private static void far() {
        Checks.says("FAR: how many steps that is (ROWS and COLUMNS together).");
        Face x = Watch.fresh();
        x.side(8);
        int[][] due = {{0, 0, 0}, {77, 77, 0}, {0, 1, 1}, {0, 10, 1}, {7, 10, 8}, {10, 7, 8}, {0, 77, 14}, {77, 0, 14},
            {70, 7, 14}, {7, 70, 14}, {0, 7, 7}, {70, 0, 7}, {35, 53, 4}};
        for (int[] d : due) {
            Checks.due("far " + d[0] + " " + d[1], x.way(d[0], d[1], 0), d[2]);
            Checks.due("strength over that", x.box(0, d[0]) >= 0 ? x.bars(0, d[1], 0) : -1, 50 - 2 * d[2]);
        }
    }

    private static void ovens() {
        Checks.says("HUM at a CELL at a MINUTE: of each OVEN, if MINUTE modulo 10 is below a: "
            + "20 less 5 for each step FAR (0 at least)");
        for (int a = 0; a <= 9; a++) {
            Face x = Watch.fresh();
            x.thing(4, a, 11);
            for (int minute : new int[] {0, 1, 8, 9, 10, 18, 19, 50, 58, 59, a, Math.max(0, a - 1), 30 + a, 29 + a}) {
                x.ask(2, minute);
                Checks.due("an oven of " + a + " at " + minute, x.hum(11, 0), minute % 10 < a ? 20 : 0);
            }
        }
        Face x = Checks.built("side 8;thing 4 9 00;thing 6 9 70");
        int[] oven = {20, 15, 10, 5, 0, 0, 0, 0};
        for (int i = 0; i < 8; i++) {
            Checks.due("steps along a row " + i, x.hum(i, 0), oven[i]);
        }
        Checks.due("steps aslant", x.hum(11, 0), 10);
        Checks.due("more steps aslant", x.hum(12, 0), 5);
        Checks.says("of each COT 10 less 5 for each step (0 at least), always.");
        int[] cot = {10, 5, 0, 0, 0};
        for (int minute = 0; minute < 60; minute += 59) {
            x.ask(2, minute);
            for (int i = 0; i < 5; i++) {
                Checks.due("steps from the cot " + i, x.hum(70 + i, 0), cot[i]);
            }
        }
        // The far one is never less than 0: it takes nothing off the near one.
        Face y = Checks.built("side 8;thing 4 9 0;thing 4 9 77;thing 6 0 77;thing 4 9 7;thing 6 0 7");
        Checks.due("0 at least, each", y.hum(0, 0), 20);
        Checks.due("of each", y.hum(77, 0), 30);
        Checks.due("loss of them", y.way(0, 77, 1), 0);
        Face z = Checks.built("thing 6 0 0");
        Checks.due("a cot of 0 hums", z.hum(0, 0), 10);
        z.shut(0, false);
        Checks.due("open", z.hum(0, 0), 10);
    }

    private static void din() {
        Checks.says("DIN of a NEIGHBOUR is NOISE times what 5 is more than the difference (0 at least), the whole by 5.");
        int[][] byFar = {{20, 16, 12, 8, 4, 0, 0}, {1, 0, 0, 0, 0, 0, 0}, {4, 3, 2, 1, 0, 0, 0}, {5, 4, 3, 2, 1, 0, 0},
            {19, 15, 11, 7, 3, 0, 0}, {0, 0, 0, 0, 0, 0, 0}};
        int[] noises = {20, 1, 4, 5, 19, 0};
        for (int k = 0; k < noises.length; k++) {
            for (int far = 0; far <= 6; far++) {
                Face x = Watch.fresh();
                x.ask(1, 7);
                x.neighbour(7 - far, noises[k]);
                Checks.due("noise " + noises[k] + ", " + far + " below", x.hum(0, 1), byFar[k][far]);
                Face y = Watch.fresh();
                y.ask(1, 7);
                y.neighbour(7 + far, noises[k]);
                Checks.due("noise " + noises[k] + ", " + far + " above", y.hum(33, 1), byFar[k][far]);
            }
        }
        Face x = Watch.fresh();
        x.ask(1, 13);
        x.neighbour(1, 20);
        Checks.due("as far as can be", x.hum(0, 1), 0);
        // Two of 4, four channels off, are cut each: 0 and 0, not 8 by 5.
        Face y = Checks.built("neighbour 10 4;neighbour 2 4");
        Checks.due("cut each", y.hum(0, 1), 0);
        Face z = Watch.fresh();
        for (int i = 0; i < 8; i++) {
            z.neighbour(6, 20);
        }
        Checks.due("all there may be", z.hum(0, 1), 160);
        Checks.due("nothing is left of the strength", z.bars(0, 0, 0), 0);
    }

    private static void strength() {
        Checks.says("STRENGTH of a BOX at a CELL: POWER less 2 for each step FAR, less LOSS of the WAY, less HUM there, "
            + "less all DIN (0 at least).");
        Face x = Watch.fresh();
        x.ask(0, 20);
        x.thing(0, 9, 1);
        x.thing(0, 8, 1);
        Checks.due("1 is left", x.bars(0, 1, 0), 1);
        x.neighbour(6, 1);
        Checks.due("nothing is left", x.bars(0, 1, 0), 0);
        x.neighbour(6, 1);
        Checks.due("0 at least", x.bars(0, 1, 0), 0);
        Checks.due("0 at least, far less", x.bars(0, 2, 0), 0);
        Checks.due("no bars of that", x.bars(0, 2, 1), 0);
        Checks.due("no pace of that", x.bars(0, 2, 2), 0);
        Face y = Checks.built("thing 4 9 1;thing 0 3 1;thing 0 5 0;neighbour 7 5;box 1 2");
        Checks.due("all of it", y.bars(0, 1, 0), 50 - 2 - 3 - 20 - 4);
        Checks.due("hum there, not where the box is", y.bars(0, 0, 0), 50 - 15 - 4);
        Checks.due("of box 1 from the other side", y.bars(1, 1, 0), 50 - 2 - 3 - 20 - 4);
        Checks.due("loss of the way from the box", y.bars(1, 0, 0), 50 - 4 - 8 - 15 - 4);
        Checks.due("the way, not back", y.bars(0, 2, 0), 50 - 4 - 3 - 15 - 4);
        Checks.says("BARS: that by 10 (cut), 5 at most.");
        int[][] bars = {{10, 1}, {19, 1}, {20, 2}, {29, 2}, {30, 3}, {39, 3}, {40, 4}, {49, 4}, {50, 5}, {59, 5}, {60, 5}};
        for (int[] b : bars) {
            Face z = Watch.fresh();
            z.ask(0, b[0]);
            Checks.due("bars of " + b[0], z.bars(0, 0, 1), b[1]);
            Checks.due("pace of " + b[0], z.bars(0, 0, 2), b[1]);
            z.box(1, 0);
            Checks.due("bars of box 1 of " + b[0], z.bars(1, 0, 1), b[1]);
            Checks.says("PACE of BOX 0: BARS; of BOX 1: half of BARS (cut)");
            Checks.due("pace of box 1 of " + b[0], z.bars(1, 0, 2), b[1] / 2);
        }
        Face w = Watch.fresh();
        w.ask(0, 11);
        w.neighbour(6, 1);
        Checks.due("10", w.bars(0, 0, 1), 1);
        w.neighbour(6, 1);
        Checks.due("9", w.bars(0, 0, 1), 0);
    }

    private static void paceOfTheOther() {
        Checks.says("and no more than BARS of BOX 0 where BOX 1 stands");
        // BOX 0 has 50 less 6 and what swallows in 1, 2 and 3, where BOX 1 stands.
        int[][] swallow = {{0, 4, 2}, {24, 2, 2}, {25, 1, 1}, {34, 1, 1}, {35, 0, 0}, {50, 0, 0}};
        for (int[] s : swallow) {
            Face x = Watch.fresh();
            x.box(1, 3);
            for (int left = s[0]; left > 0; left -= 9) {
                x.thing(0, Math.min(9, left), 2);
            }
            Checks.due("bars of box 0 there, behind " + s[0], x.bars(0, 3, 1), s[1]);
            Checks.due("bars of box 1", x.bars(1, 13, 1), 4);
            Checks.due("pace of box 1", x.bars(1, 13, 2), s[2]);
            Checks.due("pace of box 1 where box 0 is", x.bars(1, 0, 2), Math.min(s[2], x.bars(1, 0, 1) / 2));
        }
        Checks.says("0: there is no such BOX.");
        Face x = Watch.fresh();
        for (int what = 0; what < 3; what++) {
            Checks.due("no box 1 yet, " + what, x.bars(1, 0, what), 0);
        }
        x.box(1, 0);
        x.box(1, -1);
        for (int what = 0; what < 3; what++) {
            Checks.due("no box 1 any more, " + what, x.bars(1, 0, what), 0);
        }
    }

    private static void wants() {
        Checks.says("A DEVICE has what it WANTS, if PACE of the BOX it CLINGS to is WANT at least.");
        for (int want = 1; want <= 5; want++) {
            for (int bars = 1; bars <= 5; bars++) {
                Face x = Watch.fresh();
                x.ask(0, 10 * bars);
                x.device(0, want, 7);
                Checks.due("want " + want + " of " + bars, x.filled(0), bars >= want ? 7 : 0);
                Checks.due("served, want " + want + " of " + bars, x.filled(1), bars >= want ? 7 : 0);
                Face y = Watch.fresh();
                y.ask(0, 10 * bars);
                y.side(8);
                y.box(1, 0);
                y.device(77, want, 7);
                y.device(0, want, 9);
                Checks.due("want " + want + " of " + bars + " far off", y.filled(0),
                    (Math.max(0, 10 * bars - 28) / 10 >= want ? 7 : 0) + (bars >= want ? 9 : 0));
            }
        }
        Checks.says("FILLED: WORTH of all that have, together.");
        Face x = Watch.fresh();
        Checks.due("none at all", x.filled(0), 0);
        for (int i = 0; i < 6; i++) {
            x.device(0, 5, 99);
            Checks.due("all of " + i, x.filled(0), 99 * (i + 1));
        }
        x.ask(0, 49);
        Checks.due("none has", x.filled(0), 0);
        Face y = Checks.built("power 30;side 8;box 1 15;device 65 1 10");
        Checks.due("the box it clings to", y.filled(0), 0);
        Checks.due("the other box would do", y.filled(1), 10);
    }

    private static int clings(Face x) {
        return x.deviceOf(0, 3);
    }

    private static void lettingGo() {
        Checks.says("LETTING GO by a rule of n (0 to 4): if BARS of the BOX it CLINGS to are n at most and those of the "
            + "other are more, it CLINGS to the other.");
        // The device stands by BOX 1; what is in 1 leaves it these BARS of BOX 0.
        int[] swallow = {48, 38, 28, 18, 8};
        for (int bars = 0; bars <= 4; bars++) {
            for (int rule = 0; rule <= 4; rule++) {
                Face x = Watch.fresh();
                for (int left = swallow[bars]; left > 0; left -= 9) {
                    x.thing(0, Math.min(9, left), 1);
                }
                x.box(1, 1);
                x.device(1, 1, 1);
                Checks.due("bars", x.bars(0, 1, 1), bars);
                x.evening(1, rule);
                Checks.due("bars " + bars + ", rule " + rule, clings(x), bars <= rule ? 1 : 0);
            }
        }
        Face x = Checks.built("box 1 0;device 0 1 1;power 49");
        x.evening(1, 4);
        Checks.due("as many aren't more", clings(x), 0);
        x.box(0, 1);
        x.ask(0, 41);
        x.evening(1, 4);
        Checks.due("one more is", clings(x), 1);
        x.box(0, 0);
        x.evening(1, 4);
        Checks.due("as many aren't more, back", clings(x), 1);
        x.box(1, 1);
        x.evening(1, 3);
        Checks.due("3 at most, and 3 they are", clings(x), 0);
        Checks.due("by bars: pace of box 1 would be less", x.deviceOf(0, 4), 4);
        Face y = Checks.built("device 33 1 1;power 10;box 0 30;box 1 32");
        y.evening(1, 0);
        Checks.due("none by either", clings(y), 0);
        y.box(1, 33);
        y.evening(1, 0);
        Checks.due("1 is more than none", clings(y), 1);
        y.box(1, -1);
        y.evening(60, 4);
        Checks.due("of no box to none", clings(y), 1);
        y.ask(0, 60);
        y.evening(1, 0);
        Checks.due("back from no box", clings(y), 0);
        y.evening(1, 4);
        Checks.due("never to no box", clings(y), 0);
    }

    public static void main(String[] args) {
        lossOfThings();
        ways();
        far();
        ovens();
        din();
        strength();
        paceOfTheOther();
        wants();
        lettingGo();
        Checks.end("EdgeStrengthTest");
    }
}
