/** Promises 2 to 8. */
public final class ShelfTest {
    private static final int LOW = Integer.MIN_VALUE;
    private static final int HIGH = Integer.MAX_VALUE;

    private static void promise2Row() {
        Face x = Watch.fresh();
        Checks.due("no shelf", x.row(-1, 9, -1), -1);
        Checks.due("no shelf 8", x.row(8, 0, 0), -1);
        Checks.due("below", x.row(0, 9, -1), -4);
        Checks.due("far below", x.row(0, 0, LOW), -4);
        Checks.due("sort ahead of room", x.row(0, 4, 161), -6);
        Checks.due("sort", x.row(0, -1, 0), -6);
        Checks.due("room", x.row(0, 3, 161), -7);
        Checks.due("far beyond room", x.row(0, 3, HIGH), -7);
        Checks.due("nothing came of it", x.holds(0), -1);
        Checks.due("the longest", x.row(0, 3, 160), 1);
        Checks.due("its last", x.set(0, 159, 5), 1);
        Checks.due("sort of it", x.holds(0), 103);
        Checks.due("anew", x.row(0, 3, 160), 1);
        Checks.due("0 at first", x.element(0, 159), 0);
        Checks.due("an empty one", x.row(7, 0, 0), 1);
        Checks.due("it is a row", x.holds(7), 100);
        Checks.due("-1 counted", x.status(11), 2);
        Checks.due("-4 counted", x.status(14), 2);
        Checks.due("-6 counted", x.status(16), 2);
        Checks.due("-7 counted", x.status(17), 2);
        x.thing(0, 0, 0);
        x.show(0, 0);
        Checks.due("over a thing", x.row(0, 1, 2), 1);
        Checks.due("a row then", x.holds(0), 101);
    }

    private static void promise3Set() {
        Face x = Watch.fresh();
        x.thing(0, 0, 0);
        x.show(1, 0);
        Checks.due("no shelf", x.set(8, 9, 0), -1);
        Checks.due("a thing", x.set(1, 9, 0), -2);
        Checks.due("nothing", x.set(2, 9, 0), -3);
        x.row(0, 0, 3);
        Checks.due("beyond", x.set(0, 3, 0), -5);
        Checks.due("ahead", x.set(0, -1, 0), -5);
        Checks.due("far", x.set(0, LOW, 0), -5);
        long v = 0x1122334455667788L;
        long[] kept = {(byte) 0x88, 0x7788, 0x55667788, v};
        for (int sort = 0; sort < 4; sort++) {
            x.row(0, sort, 3);
            Checks.due("set", x.set(0, 1, v), 1);
            Checks.due("lowest bits of sort " + sort, x.element(0, 1), kept[sort]);
            Checks.due("set", x.set(0, 2, -1L), 1);
            Checks.due("signed", x.element(0, 2), -1L);
            Checks.due("the others stay", x.element(0, 0), 0);
        }
        x.row(0, 1, 1);
        x.set(0, 0, 0x18000L);
        Checks.due("short with a sign", x.element(0, 0), -32768);
    }

    private static void promise4Copy() {
        Face x = Watch.fresh();
        x.thing(0, 0, 0);
        x.show(5, 0);
        Checks.fill(x, 0, 2, 1, 2, 3, 4, 5);
        Checks.fill(x, 1, 2, 11, 12, 13, 14);
        Checks.fill(x, 2, 3, 11, 12, 13, 14);
        Checks.due("no shelf", x.copy(8, 5, 0, 0, 0), -1);
        Checks.due("no other shelf", x.copy(5, -1, 0, 0, 0), -1);
        Checks.due("a thing", x.copy(5, 1, 0, 0, 0), -2);
        Checks.due("to a thing", x.copy(1, 5, 0, 0, 0), -2);
        Checks.due("nothing and a thing", x.copy(4, 5, 0, 0, 0), -2);
        Checks.due("two sorts", x.copy(0, 2, 0, 0, -1), -2);
        Checks.due("from nothing", x.copy(4, 2, 0, 0, -1), -3);
        Checks.due("to nothing", x.copy(2, 4, 0, 0, -1), -3);
        Checks.due("nothing of nothing", x.copy(4, 4, 0, 0, -1), -3);
        Checks.due("below", x.copy(0, 1, 9, 9, -1), -4);
        Checks.due("i", x.copy(0, 1, -1, 0, 1), -5);
        Checks.due("j", x.copy(0, 1, 0, -1, 1), -5);
        Checks.due("its end", x.copy(0, 1, 4, 0, 2), -5);
        Checks.due("the other's end", x.copy(0, 1, 0, 3, 2), -5);
        Checks.due("an end behind all ints", x.copy(0, 1, HIGH, 0, HIGH), -5);
        Checks.due("none from beyond the end", x.copy(0, 1, 6, 0, 0), -5);
        Checks.due("none from the end", x.copy(0, 1, 5, 4, 0), 1);
        Checks.due("two", x.copy(0, 1, 3, 1, 2), 1);
        long[] due = {11, 4, 5, 14};
        for (int i = 0; i < 4; i++) {
            Checks.due("copied " + i, x.element(1, i), due[i]);
            Checks.due("read from " + i, x.element(0, i), i + 1);
        }
        Checks.due("onto itself, up", x.copy(0, 0, 0, 1, 4), 1);
        long[] up = {1, 1, 2, 3, 4};
        for (int i = 0; i < 5; i++) {
            Checks.due("as they were ahead, up " + i, x.element(0, i), up[i]);
        }
        Checks.due("onto itself, down", x.copy(0, 0, 1, 0, 4), 1);
        long[] down = {1, 2, 3, 4, 4};
        for (int i = 0; i < 5; i++) {
            Checks.due("as they were ahead, down " + i, x.element(0, i), down[i]);
        }
        Checks.due("all of it", x.copy(1, 0, 0, 0, 4), 1);
        x.set(1, 0, 99);
        Checks.due("two rows still", x.element(0, 0), 11);
    }

    private static void promise5Element() {
        Face x = Watch.fresh();
        x.thing(0, 0, 11);
        x.show(1, 0);
        Checks.fill(x, 0, 3, 1L << 40, -7);
        Checks.due("a long, whole", x.element(0, 0), 1L << 40);
        Checks.due("behind it", x.element(0, 2), 0);
        Checks.due("ahead", x.element(0, -1), 0);
        Checks.due("of a thing", x.element(1, 0), 0);
        Checks.due("of nothing", x.element(2, 0), 0);
        Checks.due("of no shelf", x.element(8, 0), 0);
        Checks.due("of no shelf below", x.element(LOW, HIGH), 0);
        for (int what = 11; what <= 17; what++) {
            Checks.due("nothing refused", x.status(what), 0);
        }
    }

    private static void promise6Show() {
        Face x = Watch.fresh();
        Checks.due("no thing yet", x.show(0, 0), -1);
        x.thing(1, 2, 3);
        Checks.due("no shelf", x.show(8, 0), -1);
        Checks.due("no shelf, none", x.show(-1, -1), -1);
        Checks.due("below NONE", x.show(0, -2), -1);
        Checks.due("counted", x.status(11), 4);
        Checks.due("shown", x.show(0, 0), 1);
        Checks.due("it holds it", x.holds(0), 0);
        Checks.due("none", x.show(0, -1), 0);
        Checks.due("it holds nothing", x.holds(0), -1);
        x.row(0, 0, 4);
        Checks.due("over a row", x.show(0, 0), 1);
        Checks.due("the row is gone", x.element(0, 0), 0);
        x.row(0, 0, 4);
        Checks.due("nothing over a row", x.show(0, -1), 0);
        Checks.due("it holds nothing", x.holds(0), -1);
    }

    private static void promise7Holds() {
        Face x = Watch.fresh();
        for (int s = -1; s <= 8; s++) {
            Checks.due("nothing at first", x.holds(s), -1);
        }
        for (int sort = 0; sort < 4; sort++) {
            x.row(sort, sort, 1);
            Checks.due("a row", x.holds(sort), 100 + sort);
        }
        for (int i = 0; i < 16; i++) {
            x.thing(i % 7, i % 10, 0);
        }
        x.show(7, 15);
        Checks.due("a thing", x.holds(7), 15);
        Checks.due("nothing refused", x.status(11), 0);
    }

    private static void promise8Says() {
        Face x = Watch.fresh();
        int[] loss = {7, 10, 7, 20, 0, 3, 0};
        int[][] kin = {{0}, {0, 1}, {0, 2}, {0, 1, 3}, {0, 4}, {0, 2, 5}, {0, 4, 6}};
        for (int kind = 0; kind < 7; kind++) {
            x.thing(kind, 7, 11);
        }
        x.row(1, 0, 0);
        Checks.due("no shelf", x.says(8, 0), -1);
        Checks.due("no kind", x.says(0, 7), -1);
        Checks.due("no kind, nothing", x.says(5, -1), -1);
        Checks.due("a row", x.says(1, 0), -2);
        Checks.due("nothing", x.says(2, 0), -3);
        for (int kind = 0; kind < 7; kind++) {
            x.show(0, kind);
            for (int asked = 0; asked < 7; asked++) {
                boolean one = false;
                for (int k : kin[kind]) {
                    one |= k == asked;
                }
                int due = asked == 0 ? 11 : asked == 2 ? 1 : asked == 4 || asked == 6 ? (kind == 6 ? 10 : 20) : loss[kind];
                Checks.due("a " + kind + " taken for a " + asked, x.says(0, asked), one ? due : -2);
            }
        }
        x.show(0, 5);
        x.shut(5, false);
        Checks.due("an open glass taken for a door", x.says(0, 2), 0);
        Checks.due("an open glass", x.says(0, 5), 0);
        x.show(0, 4);
        x.ask(2, 17);
        Checks.due("an oven that rests", x.says(0, 4), 0);
        x.ask(2, 56);
        Checks.due("an oven that runs", x.says(0, 4), 20);
        x.ask(2, 57);
        x.show(0, 6);
        Checks.due("a cot hums always", x.says(0, 4), 10);
        x.move(6, 33);
        Checks.due("a cell told anew", x.says(0, 0), 33);
    }

    public static void main(String[] args) {
        promise2Row();
        promise3Set();
        promise4Copy();
        promise5Element();
        promise6Show();
        promise7Holds();
        promise8Says();
        Checks.end("ShelfTest");
    }
}
