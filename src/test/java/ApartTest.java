/** Houses in which what is easily taken for something else differs from it. */
public final class ApartTest {
    private static int after(int seed) {
        return seed * 1103515245 + 12345;
    }

    private static void largeHouse() {
        Checks.says("CELLS: 10 times the ROW and the COLUMN (0 to SIDE less 1 each); FITS, NEXT, NEAR, COUNT in all of them");
        Face x = Watch.fresh();
        x.side(8);
        Checks.fill(x, 0, 2, 77, 4, 27, 5);
        // 4 BARS one to five steps away: 2 + 3 + 4 + 5 + 6 cells.
        Checks.onlyTells("fits", x, y -> y.fits(0, 1, -1), 20);
        Checks.onlyTells("the first", x, y -> y.fits(0, 1, 0), 27);
        Checks.onlyTells("the last", x, y -> y.fits(0, 1, 19), 76);
        Checks.refused("none such", x, y -> y.fits(0, 1, 20), -5);
        Checks.onlyTells("one alone", x, y -> y.fits(0, 2, -1), 1);
        Checks.onlyTells("one fits", x, y -> y.next(0, 2), -1);
        Checks.onlyTells("any cell", x, y -> y.fits(0, 0, -1), 64);
        Checks.onlyTells("the last of all", x, y -> y.fits(0, 0, 63), 77);
        x.set(0, 0, 78);
        Checks.refused("no cell", x, y -> y.fits(0, 1, -1), -6);
        Checks.refused("no cell", x, y -> y.next(0, 1), -16);
        Checks.onlyTells("near", x, y -> y.near(77, 4), 9);
        // 3 BARS up to ten steps away: all but 4 + 3 + 2 + 1 in the corner.
        Checks.onlyTells("count", x, y -> y.count(3), 54);
        Checks.fill(x, 1, 2, 66, 67, 77, 78);
        Checks.onlyTells("walk", x, y -> y.judge(1, 4), 3);
        // The device has 2 BARS up to five steps away, while POWER is 30.
        x.device(77, 2, 9);
        x.ask(0, 30);
        Checks.onlyTells("put", x, y -> y.put(0), 27);
    }

    private static void boxElsewhere() {
        Checks.says("BLAME: of a CELL's lost STRENGTH of BOX 0");
        Face x = Watch.fresh();
        x.box(0, 33);
        x.thing(0, 7, 31);
        x.thing(6, 0, 22);
        x.thing(3, 9, 33);
        Checks.onlyTells("the loss of 31: 7, steps: 6", x, y -> y.blame(30), 1);
        Checks.onlyTells("a cot beside: 5, a step: 2", x, y -> y.blame(23), 2);
        Checks.onlyTells("its own cell: nothing", x, y -> y.blame(33), 0);
        Checks.onlyTells("12 for the steps", x, y -> y.blame(0), 0);
        x.box(0, 0);
        Checks.onlyTells("from 0: 10 for the steps", x, y -> y.blame(23), 0);
        Checks.onlyTells("from 0: the old wall", x, y -> y.blame(33), 1);
        Face other = Watch.fresh();
        other.box(0, 33);
        other.box(1, 0);
        other.thing(1, 0, 1);
        Checks.onlyTells("not of box 1", other, y -> y.blame(1), 0);
        other.box(0, 0);
        Checks.onlyTells("of box 0", other, y -> y.blame(1), 1);
    }

    private static void bestByTheOther() {
        Checks.says("BEST of a DEVICE: the greater PACE of both BOXES where it is.");
        Face x = Watch.fresh();
        x.side(8);
        x.thing(0, 8, 77);
        x.device(77, 2, 40);
        // BOX 0: 50 - 28 - 8. BOX 1: 50 - 2 - 8, half of its 4 BARS; BOX 0 has 2 BARS in 76.
        Checks.due("by box 0 alone", x.deviceOf(0, 5), 1);
        x.box(1, 76);
        Checks.due("pace", x.deviceOf(0, 4), 1);
        Checks.due("best", x.deviceOf(0, 5), 2);
        Checks.due("filled", x.filled(0), 0);
        Checks.due("served", x.filled(1), 40);
        x.box(1, 1);
        Checks.due("box 1 too far", x.deviceOf(0, 5), 1);
        x.box(0, 77);
        Checks.due("box 0 there", x.deviceOf(0, 5), 5);
    }

    private static void nothingOutside() {
        Checks.says("CELLS: 10 times the ROW and the COLUMN (0 to SIDE less 1 each)");
        Face x = Watch.fresh();
        x.thing(3, 9, 23);
        x.thing(3, 9, 32);
        // A way around by COLUMN 4 would have no loss, but there is none.
        Checks.due("33 is walled in", x.bars(0, 33, 1), 1);
        Checks.onlyTells("near", x, y -> y.near(33, 2), 2);
        Checks.onlyTells("near 3", x, y -> y.near(33, 3), 2);
        Face put = Watch.fresh();
        for (int cell : new int[] {2, 12, 13, 21}) {
            put.thing(1, 9, cell);
        }
        put.device(22, 4, 50);
        Checks.onlyTells("put 0", put, y -> y.put(0), 12);
        Face other = Watch.fresh();
        other.thing(3, 7, 23);
        other.thing(3, 7, 32);
        other.device(33, 2, 50);
        Checks.onlyTells("put 1", other, y -> y.put(1), 23);
        Checks.onlyTells("two", other, y -> y.put(2), 23);
        // 50 - 20 - 10 from 1: 2 BARS; from 0 there is 1.
        Checks.onlyTells("put 0 there", other, y -> y.put(0), 1);
        other.side(5);
        Checks.onlyTells("put 1 in a larger house", other, y -> y.put(1), 4);
    }

    private static void drawnOfOtherNumbers(int devices, int things, int neighbours) {
        Checks.says("0 a DEVICE (a DRAW below how many there are), 1 a THING (likewise), 2 a NEIGHBOUR (likewise)");
        Face x = Watch.fresh();
        for (int i = 0; i < devices; i++) {
            x.device(0, 5, 1);
        }
        for (int i = 0; i < things; i++) {
            x.thing(2, 0, 0);
        }
        for (int i = 0; i < neighbours; i++) {
            x.neighbour(7, 0);
        }
        for (int seed = 1; seed <= 40; seed++) {
            Face y = Watch.twin(x);
            y.seed(seed * 1000003);
            int what = after(seed * 1000003);
            int one = after(what);
            int two = after(one);
            int three = after(two);
            y.weeks(1);
            int sort = (what >>> 16) % 4;
            for (int i = 0; i < devices; i++) {
                boolean goes = sort == 0 && i == (one >>> 16) % devices;
                int due = goes ? 10 * ((two >>> 16) % 4) + (three >>> 16) % 4 : 0;
                Checks.due("device " + i + " by " + seed, y.deviceOf(i, 0), due);
            }
            for (int i = 0; i < things; i++) {
                boolean opens = sort == 1 && i == (one >>> 16) % things;
                Checks.due("thing " + i + " by " + seed, y.thingOf(i, 3), opens ? 0 : 1);
            }
            for (int i = 0; i < neighbours; i++) {
                boolean goes = sort == 2 && i == (one >>> 16) % neighbours;
                Checks.due("neighbour " + i + " by " + seed, y.goesTo(i, 0), goes ? 1 + (two >>> 16) % 13 : 7);
            }
            int due = sort == 0 && devices > 0 ? three : sort == 1 && things > 0 ? one
                : sort == 2 && neighbours > 0 ? two : what;
            Checks.due("seed behind " + seed, y.status(9), due);
        }
    }

    private static void theWayFromTheBox() {
        Checks.says("NEXT: the CELL at which to measure BARS of BOX 0 there, not what is had from there");
        Face x = Watch.fresh();
        x.thing(0, 9, 0);
        x.row(0, 2, 0);
        // In 0 all are 9 weaker but the one in 0 itself: 14 alike there, and 14 at least anywhere else.
        Checks.onlyTells("next", x, y -> y.next(0, 0), 0);
        Face z = Watch.fresh();
        z.thing(0, 9, 0);
        Checks.fill(z, 0, 2, 0, 3);
        // 50 - 9 - 2 each step: one to five steps away.
        Checks.onlyTells("fits", z, y -> y.fits(0, 1, -1), 14);
        z.set(0, 1, 4);
        Checks.onlyTells("fits none", z, y -> y.fits(0, 1, -1), 0);
        Checks.says("in the worst case fewest are left, of several the first");
        Face few = Watch.fresh();
        few.ask(0, 12);
        Checks.fill(few, 0, 2, 3, 1);
        // One step at most: 2, 3, 13. Measured at 0 none has a bar, at 1 only 2 has, at 2 only 13 hasn't.
        Checks.onlyTells("three fit", few, y -> y.fits(0, 1, -1), 3);
        Checks.onlyTells("two have no bar or one has none", few, y -> y.next(0, 1), 1);
    }

    private static void whatWasIsGone() {
        Checks.says("SHELVES hold NOTHING, a ROW, or a THING; element: 0 if there is none");
        Face x = Watch.fresh();
        x.thing(0, 5, 12);
        for (int holds = -1; holds <= 0; holds++) {
            Checks.fill(x, 3, 3, -7, -8, -9);
            Checks.due("the row's", x.element(3, 0), -7);
            x.show(3, holds);
            for (int i = 0; i < 3; i++) {
                Checks.due("no row's", x.element(3, i), 0);
            }
            Checks.refused("set", x, y -> y.set(3, 0, 1), holds < 0 ? -3 : -2);
        }
        x.row(3, 3, 3);
        Checks.due("a new row's", x.element(3, 0) + x.element(3, 1) + x.element(3, 2), 0);
    }

    private static void awayIsNothing() {
        Checks.says("MOVED: the THING by whose being away SERVED were most");
        Face x = Watch.fresh();
        x.ask(0, 52);
        x.thing(0, 0, 33);
        x.thing(0, 1, 33);
        x.device(33, 4, 8);
        Checks.due("39", x.bars(0, 33, 0), 39);
        Checks.onlyTells("the one that has 1", x, Face::moved, 1);
    }

    private static void allSixDevices() {
        Checks.says("DEVICES have numbers, from 0 on, 6 at most: each LETS GO, each is SERVED");
        Face x = Watch.fresh();
        x.ask(1, 2);
        for (int i = 0; i < 6; i++) {
            x.device(33, i == 5 ? 4 : 1, 10 + i);
        }
        Checks.due("without the last", x.filled(1), 10 + 11 + 12 + 13 + 14);
        Checks.onlyTells("put for the last", x, y -> y.put(0), 1);
        Face at = Watch.twin(x);
        at.box(0, 1);
        Checks.due("the last too", at.filled(1), 75);
        Checks.due("the last has it", at.filled(0), 75);
        Face y = Watch.twin(x);
        y.box(1, 33);
        y.evening(1, 3);
        for (int i = 0; i < 6; i++) {
            Checks.due("device " + i + " lets go", y.deviceOf(i, 3), 1);
        }
        Checks.due("filled by box 1", y.filled(0), 60);
    }

    private static void lastOfSixteen() {
        Checks.says("THINGS have numbers, from 0 on, 16 at most");
        for (int power : new int[] {10, 60}) {
            Face x = Watch.fresh();
            x.ask(0, power);
            for (int i = 0; i < 14; i++) {
                x.thing(0, 0, 0);
            }
            x.thing(6, 0, 33);
            x.thing(1, 9, 33);
            Checks.due("loss", x.way(0, 33, 1), 12);
            Checks.due("hum", x.hum(33, 0), 10);
            Checks.due("strength", x.bars(0, 33, 0), power == 10 ? 0 : 26);
        }
    }

    private static void nobodyOnTheAir() {
        Checks.says("RESTS: without NEIGHBOURS 0.");
        Face x = Watch.fresh();
        for (int on = 1; on <= 13; on++) {
            x.ask(1, on);
            Checks.due("nobody, the box on " + on, x.rests(), 0);
        }
        x.neighbour(13, 20);
        x.ask(1, 1);
        Checks.due("one far from the box", x.rests(), 0);
        x.ask(1, 13);
        Checks.due("one on the box's", x.rests(), 1);
        Checks.due("goes to the first quiet one", x.goesTo(0, 1), 1);
    }

    public static void main(String[] args) {
        largeHouse();
        boxElsewhere();
        bestByTheOther();
        nothingOutside();
        drawnOfOtherNumbers(2, 5, 7);
        drawnOfOtherNumbers(6, 2, 3);
        drawnOfOtherNumbers(3, 16, 8);
        drawnOfOtherNumbers(0, 3, 1);
        drawnOfOtherNumbers(1, 0, 0);
        theWayFromTheBox();
        whatWasIsGone();
        awayIsNothing();
        allSixDevices();
        lastOfSixteen();
        nobodyOnTheAir();
        Checks.end("ApartTest");
    }
}
