/** A house, rows and shelves that are empty, and such as are full: what each call tells of them. */
public final class EdgeFullTest {
    private static void emptyHouse() {
        Checks.says("TwoBarsByTheWindow(): SIDE 4, BOX 0 in CELL 0, nothing else.");
        Face x = Watch.fresh();
        Checks.onlyTells("strength", x, y -> y.bars(0, 33, 0), 38);
        Checks.onlyTells("strength of no box", x, y -> y.bars(1, 33, 0), 0);
        Checks.onlyTells("way", x, y -> y.way(0, 33, 1), 0);
        Checks.onlyTells("hum", x, y -> y.hum(0, 0), 0);
        Checks.onlyTells("din", x, y -> y.hum(0, 1), 0);
        Checks.onlyTells("filled", x, y -> y.filled(0), 0);
        Checks.onlyTells("served", x, y -> y.filled(1), 0);
        Checks.onlyTells("put 0", x, y -> y.put(0), 0);
        Checks.onlyTells("put 1", x, y -> y.put(1), 0);
        Checks.onlyTells("two", x, y -> y.put(2), 0);
        Checks.onlyTells("channel", x, Face::channel, 1);
        Checks.onlyTells("rests", x, Face::rests, 0);
        Checks.onlyTells("moved", x, Face::moved, -1);
        Checks.onlyTells("doors", x, Face::doors, 0);
        Checks.onlyTells("count", x, y -> y.count(4), 15);
        Checks.onlyTells("near", x, y -> y.near(33, 5), 6);
        Checks.onlyTells("minute", x, Face::minute, 0);
        Checks.onlyTells("blame", x, y -> y.blame(33), 0);
        Checks.onlyTells("fault", x, Face::fault, -1);
        Checks.onlyTells("trace", x, y -> y.trace(0), -1);
        Checks.due("evening", x.evening(1, 0), 0);
        Checks.due("weeks", x.weeks(1), 0);
        Checks.due("act", x.act(0, 0, 5), 0);
        Checks.due("image", x.image(), 0);
        Checks.due("restore", x.restore(), 0);
    }

    private static void emptyRow() {
        Checks.says("0 to 160 elements; the first n pairs (0 to 40); the first n elements (0 to 40)");
        Face x = Watch.fresh();
        x.row(0, 2, 0);
        Checks.onlyTells("holds", x, y -> y.holds(0), 102);
        Checks.onlyTells("element", x, y -> (int) y.element(0, 0), 0);
        Checks.refused("set", x, y -> y.set(0, 0, 1), -5);
        Checks.onlyTells("copy", x, y -> y.copy(0, 0, 0, 0, 0), 1);
        Checks.refused("copy one", x, y -> y.copy(0, 0, 0, 0, 1), -5);
        Checks.onlyTells("fits", x, y -> y.fits(0, 0, -1), 16);
        Checks.refused("fits one", x, y -> y.fits(0, 1, -1), -5);
        Checks.onlyTells("next", x, y -> y.next(0, 0), 0);
        Checks.refused("next one", x, y -> y.next(0, 1), -15);
        Checks.onlyTells("judge", x, y -> y.judge(0, 0), -1);
        Checks.refused("judge one", x, y -> y.judge(0, 1), -15);
        Checks.onlyTells("hops", x, y -> y.hops(0, 0, 0), 0);
        Checks.onlyTells("calm", x, y -> y.hops(0, 0, -1), 4);
        Checks.refused("hops of one", x, y -> y.hops(0, 1, 0), -5);
        Checks.due("house", x.house(0), -6);
        Checks.due("its fault", x.fault(), 0);
    }

    private static void fullRow() {
        Checks.says("a row of 160 elements: the first 40 pairs, the first 40 elements");
        Face x = Watch.fresh();
        x.row(0, 0, 160);
        for (int i = 0; i < 80; i++) {
            x.set(0, 2 * i + 1, 5);
        }
        Checks.due("40 pairs", x.fits(0, 40, -1), 1);
        Checks.due("41 pairs", x.fits(0, 41, -1), -6);
        Checks.due("80 pairs", x.fits(0, 80, -1), -6);
        Checks.due("81 pairs", x.fits(0, 81, -1), -5);
        Checks.due("next by 40", x.next(0, 40), -1);
        Checks.due("next by 41", x.next(0, 41), -16);
        Checks.due("next by 81", x.next(0, 81), -15);
        Checks.due("5 is no cell", x.judge(0, 40), 1);
        Checks.due("a wrong walk", x.hops(0, 40, 0), -6);
        x.row(0, 3, 160);
        Checks.due("a walk of 40", x.judge(0, 40), -1);
        Checks.due("of 41", x.judge(0, 41), -16);
        Checks.due("of 160", x.judge(0, 160), -16);
        Checks.due("of 161", x.judge(0, 161), -15);
        Checks.due("hops of 40", x.hops(0, 40, 4), 0);
        Checks.due("hops of 41", x.hops(0, 41, 4), -6);
        Checks.due("hops of 161", x.hops(0, 161, 4), -5);
        Checks.due("no text", x.house(0), -6);
        Checks.due("its fault", x.fault(), 0);
    }

    /** 16 OLD of 9 in 77, 8 NEIGHBOURS of 20 on 13, 6 DEVICES that want 5 in 0, SIDE 8, POWER 60, CHANNEL 1. */
    private static Face full() {
        Face x = Watch.fresh();
        x.side(8);
        x.ask(0, 60);
        x.ask(1, 1);
        for (int i = 0; i < 16; i++) {
            x.thing(3, 9, 77);
        }
        for (int i = 0; i < 8; i++) {
            x.neighbour(13, 20);
        }
        for (int i = 0; i < 6; i++) {
            x.device(0, 5, 99);
        }
        return x;
    }

    private static void fullHouse() {
        Checks.says("THINGS 16 at most; NEIGHBOURS 8 at most; DEVICES 6 at most");
        Face x = full();
        Checks.onlyTells("all swallow", x, y -> y.way(0, 77, 1), 384);
        Checks.onlyTells("from there", x, y -> y.way(77, 0, 1), 0);
        Checks.onlyTells("strength there", x, y -> y.bars(0, 77, 0), 0);
        Checks.onlyTells("beside it", x, y -> y.bars(0, 76, 0), 34);
        Checks.onlyTells("din far off", x, y -> y.hum(0, 1), 0);
        Checks.onlyTells("filled", x, y -> y.filled(0), 594);
        Checks.onlyTells("served", x, y -> y.filled(1), 594);
        Checks.onlyTells("put", x, y -> y.put(0), 0);
        Checks.onlyTells("moved", x, Face::moved, 0);
        Checks.onlyTells("doors", x, Face::doors, 0);
        Checks.onlyTells("channel", x, Face::channel, 1);
        int[] counts = {64, 63, 63, 63, 54, 21};
        for (int n = 0; n <= 5; n++) {
            int bars = n;
            Checks.onlyTells("count " + n, x, y -> y.count(bars), counts[n]);
        }
        Checks.onlyTells("near", x, y -> y.near(77, 1), 1);
        Checks.onlyTells("blame", x, y -> y.blame(77), 1);
        Face loud = Watch.twin(x);
        loud.ask(1, 13);
        Checks.onlyTells("din", loud, y -> y.hum(0, 1), 160);
        Checks.onlyTells("no strength left", loud, y -> y.bars(0, 0, 0), 0);
        Checks.onlyTells("none filled", loud, y -> y.filled(0), 0);
        Checks.onlyTells("count", loud, y -> y.count(1), 0);
        Checks.onlyTells("near", loud, y -> y.near(0, 1), -1);
        Checks.onlyTells("blame", loud, y -> y.blame(0), 3);
        Checks.onlyTells("channel", loud, Face::channel, 1);
        Face far = Watch.twin(x);
        for (int i = 0; i < 6; i++) {
            Checks.due("device " + i, far.deviceOf(i, 5), 5);
        }
        Checks.due("evening", far.evening(60, 4), 594);
        Checks.due("image", far.image(), 16);
        far.box(0, 77);
        Checks.due("none is served from there", far.filled(1), 0);
        Checks.due("restore", far.restore(), 16);
        Checks.due("all again", far.filled(1), 594);
        for (int s = 0; s < 8; s++) {
            Checks.due("show", far.show(s, 15 - s), 1);
        }
        far.restore();
        for (int s = 0; s < 8; s++) {
            Checks.due("they hold them still", far.holds(s), 15 - s);
        }
        Face hums = Watch.fresh();
        for (int i = 0; i < 16; i++) {
            hums.thing(i < 8 ? 4 : 6, 9, 11);
        }
        Checks.onlyTells("all hum", hums, y -> y.hum(11, 0), 8 * 20 + 8 * 10);
        Checks.onlyTells("beside them", hums, y -> y.hum(12, 0), 8 * 15 + 8 * 5);
        Checks.onlyTells("one away is one away", hums, Face::moved, 0);
    }

    private static void lastOfAll() {
        Checks.says("by which SERVED is most, of several the first: the last CELLS of all");
        Face x = Checks.built("side 8;device 77 5 9;device 77 2 1");
        Checks.due("put", x.put(0), 77);
        Checks.due("both", x.put(2), 7700);
        // 27 are swallowed in 77, where a way from elsewhere ends: of 38 then 9 are left at most.
        Face y = Checks.built("side 8;power 38;device 77 1 9;thing 0 9 77;thing 0 9 77;thing 0 9 77");
        Checks.due("put in it", y.put(0), 77);
        Checks.due("box 1 is of no use: the first", y.put(1), 0);
        y.box(0, 77);
        Checks.due("put as it is", y.put(0), 77);
    }

    private static void lastCall() {
        Checks.says("An object is used for at most 512 calls after it has been made");
        Face x = Watch.fresh();
        for (int i = 1; i < Watch.MOST; i++) {
            x.row(-1, 0, 0);
        }
        Checks.due("the last call: how many were refused", x.status(11), Watch.MOST - 1);
        Face y = Watch.fresh();
        for (int i = 0; i < Watch.MOST / 2; i++) {
            Checks.due("a row, time and again", y.row(0, 3, 160), 1);
            Checks.due("its last", y.set(0, 159, i), 1);
        }
        Face z = Watch.fresh();
        int due = 1;
        for (int i = 0; i < Watch.MOST - 1; i++) {
            z.weeks(60);
        }
        for (int i = 0; i < 60 * (Watch.MOST - 1); i++) {
            due = due * 1103515245 + 12345;
        }
        Checks.due("draws of all the weeks", z.status(9), due);
    }

    public static void main(String[] args) {
        lastCall();
        emptyHouse();
        emptyRow();
        fullRow();
        fullHouse();
        lastOfAll();
        Checks.end("EdgeFullTest");
    }
}
