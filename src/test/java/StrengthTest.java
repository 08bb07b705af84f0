/** Promises 21 to 24. */
public final class StrengthTest {
    private static void promise21Bars() {
        Face x = Checks.built("thing 1 4 1;thing 3 2 11;thing 2 9 10");
        // To 11: over 1 the losses are 7 and 10, over 10 (the shut door) 9 and 10.
        Checks.due("strength behind a wall", x.bars(0, 11, 0), 50 - 4 - 17);
        Checks.due("bars", x.bars(0, 11, 1), 2);
        Checks.due("pace", x.bars(0, 11, 2), 2);
        x.shut(2, false);
        Checks.due("over the open door", x.bars(0, 11, 0), 50 - 4 - 10);
        Checks.due("its own cell's loss is not on the way", x.bars(0, 0, 0), 50);
        x.box(0, 11);
        Checks.due("from 11 to itself", x.bars(0, 11, 0), 50);
        Checks.due("back from 11, over the open door", x.bars(0, 0, 0), 46);
        x.ask(0, 60);
        Checks.due("strength of 60", x.bars(0, 11, 0), 60);
        Checks.due("5 bars at most", x.bars(0, 11, 1), 5);
        x.box(0, 0);
        x.ask(0, 10);
        Checks.due("1 bar", x.bars(0, 0, 1), 1);
        Checks.due("0 at least", x.bars(0, 33, 0), 0);
        Checks.due("no bars", x.bars(0, 10, 1), 0);
        secondBox();
        refusals();
    }

    private static void secondBox() {
        Face x = Checks.built("thing 0 9 1;thing 0 9 1");
        for (int what = 0; what < 3; what++) {
            Checks.due("no such box", x.bars(1, 0, what), 0);
        }
        x.box(1, 3);
        Checks.due("strength of box 1", x.bars(1, 13, 0), 48);
        Checks.due("bars of box 1", x.bars(1, 13, 1), 4);
        Checks.due("half of them", x.bars(1, 13, 2), 2);
        Checks.due("half of 5, cut", x.bars(1, 3, 2), 2);
        Checks.due("box 0 at box 1", x.bars(0, 3, 0), 50 - 6 - 18);
        Checks.due("box 0 at box 1, bars", x.bars(0, 3, 1), 2);
        x.thing(0, 9, 2);
        Checks.due("box 0 at box 1, less", x.bars(0, 3, 1), 1);
        Checks.due("no more than that", x.bars(1, 3, 2), 1);
        Checks.due("the bars stay", x.bars(1, 3, 1), 5);
        x.thing(0, 9, 2);
        Checks.due("nothing to say again", x.bars(1, 3, 2), 0);
        x.box(0, 3);
        Checks.due("all of it", x.bars(1, 3, 2), 2);
        Checks.due("its way to 0", x.bars(1, 0, 0), 8);
        x.box(1, -1);
        Checks.due("gone", x.bars(1, 3, 0), 0);
    }

    private static void refusals() {
        Face x = Watch.fresh();
        Checks.due("another what first", x.bars(2, 99, 3), -5);
        Checks.due("another what below", x.bars(0, 0, -1), -5);
        Checks.due("no box", x.bars(2, 0, 0), -6);
        Checks.due("no box below", x.bars(-1, 0, 0), -6);
        Checks.due("no cell", x.bars(0, 40, 0), -6);
        Checks.due("no cell of no box", x.bars(1, 4, 0), -6);
        Checks.due("no cell below", x.bars(0, -1, 2), -6);
        Checks.due("-5 counted", x.status(15), 2);
        Checks.due("-6 counted", x.status(16), 5);
    }

    private static void promise22Way() {
        Face x = Checks.built("side 8;thing 1 4 1;thing 3 2 11;thing 2 9 10;thing 0 5 00;thing 0 2 77");
        Checks.due("far", x.way(0, 77, 0), 14);
        Checks.due("far across", x.way(70, 7, 0), 14);
        Checks.due("far from itself", x.way(35, 35, 0), 0);
        Checks.due("to itself", x.way(0, 0, 1), 0);
        Checks.due("over 1 or 10, both losses and 11", x.way(0, 11, 1), 17);
        Checks.due("back, without 11, with 0", x.way(11, 0, 1), 12);
        Checks.due("past all of them", x.way(0, 77, 1), 9);
        Checks.due("the other way about", x.way(77, 0, 1), 12);
        Checks.due("along a row", x.way(12, 10, 1), 19);
        Checks.due("and back", x.way(10, 12, 1), 10);
        Checks.due("along a column", x.way(31, 1, 1), 17);
        Checks.due("and back", x.way(1, 31, 1), 10);
        x.shut(2, false);
        Checks.due("over the open door", x.way(0, 11, 1), 10);
        Checks.due("over the open door, far", x.way(0, 77, 1), 2);
        Checks.due("another what first", x.way(99, 0, 2), -5);
        Checks.due("another what below", x.way(0, 0, -1), -5);
        Checks.due("no cell", x.way(80, 0, 0), -6);
        Checks.due("no other", x.way(0, 8, 1), -6);
        Checks.due("no cell below", x.way(-1, 0, 0), -6);
        Face y = Checks.built("thing 5 9 1;thing 4 9 2;thing 6 9 3");
        Checks.due("glass, oven, cot", y.way(0, 3, 1), 4);
    }

    private static void promise23Hum() {
        Face x = Checks.built("side 7;thing 4 3 33;thing 6 0 33");
        int[] both = {30, 20, 10, 5, 0, 0};
        int[] cots = {10, 5, 0, 0, 0, 0};
        int[] cells = {33, 34, 35, 36, 46, 66};
        for (int minute = 0; minute < 60; minute++) {
            x.ask(2, minute);
            for (int i = 0; i < cells.length; i++) {
                int due = minute % 10 < 3 ? both[i] : cots[i];
                Checks.due("hum at " + cells[i] + " in " + minute, x.hum(cells[i], 0), due);
            }
        }
        x.shut(0, false);
        x.ask(2, 52);
        Checks.due("open or shut", x.hum(33, 0), 30);
        x.move(1, 34);
        Checks.due("at 34", x.hum(34, 0), 25);
        Checks.due("strength where it hums", x.bars(0, 34, 0), 50 - 14 - 25);
        Checks.due("the hum of the cell alone", x.bars(0, 66, 0), 50 - 24);
        Face z = Checks.built("thing 4 0 0");
        Checks.due("an oven of 0 never runs", z.hum(0, 0), 0);
        din();
    }

    private static void din() {
        Face x = Watch.fresh();
        Checks.due("no din", x.hum(0, 1), 0);
        int[][] told = {{6, 3, 3}, {8, 7, 4}, {11, 20, 0}, {2, 20, 4}, {7, 1, 0}, {5, 1, 0}, {1, 20, 0}, {6, 20, 20}};
        int sum = 0;
        for (int[] t : told) {
            x.neighbour(t[0], t[1]);
            sum += t[2];
            Checks.due("din with " + t[0] + " " + t[1], x.hum(0, 1), sum);
        }
        Checks.due("strength in the din", x.bars(0, 0, 0), 50 - 31);
        x.ask(1, 13);
        Checks.due("on another channel", x.hum(0, 1), 12);
        x.ask(1, 8);
        Checks.due("all by the box's channel", x.hum(0, 1), 1 + 7 + 8 + 0 + 0 + 0 + 0 + 12);
        for (int cell = -90; cell < 100; cell++) {
            boolean is = cell >= 0 && cell / 10 < 4 && cell % 10 < 4;
            Checks.due("all din, whatever cell: " + cell, x.hum(cell, 1), is ? 28 : -6);
        }
        Checks.due("-6 counted, all din", x.status(16), 190 - 16);
        Checks.due("no cell from above", x.hum(Integer.MAX_VALUE, 1), -6);
        Checks.due("no cell from below", x.hum(Integer.MIN_VALUE, 1), -6);
        Checks.due("no cell", x.hum(44, 0), -6);
        Checks.due("no cell below", x.hum(-1, 0), -6);
        Checks.due("another what first", x.hum(44, 2), -5);
        Checks.due("another what below", x.hum(0, -1), -5);
        Checks.due("-6 counted", x.status(16), 190 - 16 + 4);
        Checks.due("-5 counted", x.status(15), 2);
        x.side(5);
        Checks.due("a cell by then", x.hum(44, 1), 28);
    }

    private static void promise24Filled() {
        // PACE of BOX 0: 5 at 0, 4 at 3, 3 at 33. BOX 1 at 33: 2 at most.
        Face x = Checks.built("device 0 5 1;device 3 4 2;device 3 5 4;device 33 3 8;device 33 4 16");
        Checks.due("filled", x.filled(0), 11);
        Checks.due("served", x.filled(1), 11);
        Face y = Checks.built("power 30;box 1 33;device 33 1 10;device 33 2 20;device 0 3 40");
        // BARS of BOX 0 at 33: 1; BOX 1 there 3, half is 1.
        Checks.due("filled by box 0", y.filled(0), 50);
        Checks.due("served by either", y.filled(1), 50);
        y.ask(0, 24);
        // BOX 0 has 12 at 33, BOX 1 has 24: 1 each.
        Checks.due("filled by less", y.filled(0), 10);
        Face z = Checks.built("side 8;power 30;box 1 15;device 65 1 10");
        Checks.due("box 0 has none there", z.filled(0), 0);
        Checks.due("box 1 has one", z.filled(1), 10);
        z.evening(1, 0);
        Checks.due("it clings to box 1 then", z.filled(0), 10);
        Checks.due("another what", z.filled(2), -5);
        Checks.due("another what below", z.filled(-1), -5);
        Checks.due("counted", z.status(15), 2);
    }

    public static void main(String[] args) {
        promise21Bars();
        promise22Way();
        promise23Hum();
        promise24Filled();
        Checks.end("StrengthTest");
    }
}
