import java.util.function.ToIntFunction;

/** Promises 19 and 20, and what "1. THE HOUSE" says of texts: each sentence with its edges. */
public final class TextTest {
    private static final String[] WORDS = {
        "side", "thing", "box", "power", "channel", "neighbour", "device", "open", "shut", "minute"};

    /** This FAULT; -6 is counted, and nothing but the FAULT changes. x itself isn't told. */
    private static void faulty(Face x, String text, int place) {
        Face as = Watch.twin(x);
        Checks.text(as, 0, text);
        Face then = Watch.twin(as);
        Checks.due("house " + text, then.house(0), -6);
        Checks.due("fault of " + text, then.fault(), place);
        Checks.counted("house " + text, then, as, 6);
        Checks.same("nothing changes by " + text, then, as);
    }

    private static void faulty(String text, int place) {
        faulty(Watch.fresh(), text, place);
    }

    /** A twin of x that has read this. */
    private static Face good(Face x, String text, int items) {
        Face then = Watch.twin(x);
        Checks.text(then, 0, text);
        Checks.due("house " + text, then.house(0), items);
        Checks.due("no fault of " + text, then.fault(), -1);
        Checks.counted("house " + text, then, Watch.twin(x), 0);
        return then;
    }

    private static Face good(String text, int items) {
        return good(Watch.fresh(), text, items);
    }

    private static Face furnished() {
        Face x = Watch.fresh();
        x.side(6);
        x.thing(2, 9, 11);
        x.thing(5, 8, 12);
        x.neighbour(3, 10);
        x.device(22, 2, 30);
        x.box(1, 33);
        x.image();
        x.act(1, 2, 5);
        x.show(3, 1);
        x.row(0, 0, -1);
        return x;
    }

    private static void aRowOfLetters() {
        Checks.says("A HOUSE is read from a ROW of letters");
        for (int sort = 0; sort < 4; sort++) {
            Face x = Watch.fresh();
            Checks.fill(x, 1, sort, 'm', 'i', 'n', 'u', 't', 'e', ' ', '8');
            Checks.due("a row of sort " + sort, x.house(1), 1);
            Checks.due("its minute", x.status(6), 8);
        }
        int[] odd = {0, 1, -1, 'b' - 1, 'B', 'b' + 128, 'b' + 256, 'b' - 256, 127, 'b' + 65536};
        for (int o : odd) {
            Face x = Watch.fresh();
            Checks.fill(x, 0, 2, o, 'o', 'x', ' ', '0', ' ', '0');
            Checks.due("a letter " + o, x.house(0), -6);
            Checks.due("its fault", x.fault(), 0);
        }
        for (int o : new int[] {'0' - 1, '9' + 1, '5' + 256, '5' - 256, 0}) {
            Face x = Watch.fresh();
            Checks.fill(x, 0, 2, 'm', 'i', 'n', 'u', 't', 'e', ' ', o);
            Checks.due("a digit " + o, x.house(0), -6);
            Checks.due("its fault", x.fault(), 7);
            x.set(0, 7, '5');
            Checks.due("a digit", x.house(0), 1);
        }
        Face x = Watch.fresh();
        Checks.fill(x, 0, 2, 'b', 'o', 'x', ' ' + 256, '0', ' ', '0');
        Checks.due("a blank and 256", x.house(0), -6);
        Checks.due("its fault", x.fault(), 3);
        x = Watch.fresh();
        Checks.fill(x, 0, 2, 's', 'i', 'd', 'e', ' ', '4', ';' - 256, 's', 'i', 'd', 'e', ' ', '4');
        Checks.due("a ; less 256", x.house(0), -6);
        Checks.due("its fault", x.fault(), 6);
        Checks.says("Elements of a ROW of longs count by their lowest 32 bits wherever a ROW tells something.");
        x = Watch.fresh();
        Checks.fill(x, 0, 3, 's' + (5L << 32), 'i' + (1L << 63), 'd' - (1L << 32), 'e', ' ' + (7L << 40), '6' + (1L << 32));
        Checks.due("longs", x.house(0), 1);
        Checks.due("its side", x.status(1), 6);
        x.set(0, 5, '7' + (1L << 31));
        Checks.due("a long whose lowest 32 bits are another", x.house(0), -6);
    }

    private static void itemsInARow() {
        Checks.says("ITEM, then any number of times ; and ITEM");
        Checks.due("one", good("side 5", 1).status(1), 5);
        faulty("", 0);
        faulty(";", 0);
        faulty(";side 4", 0);
        faulty("side 4;", 7);
        faulty("side 4;;side 4", 7);
        faulty("side 4 side 4", 6);
        faulty("side 4,side 4", 6);
        faulty("side 4; side 4", 7);
        faulty("side 4 ;side 4", 6);
        StringBuilder b = new StringBuilder("side 4");
        for (int items = 2; items <= 23; items++) {
            b.append(";side ").append(items < 23 ? 4 : 7);
        }
        Checks.due("as many as a row has room for", b.length(), 160);
        Checks.due("23 items", good(b.toString(), 23).status(1), 7);
        b.setCharAt(159, '9');
        faulty(b.toString(), 159);
        b.setCharAt(159, ' ');
        faulty(b.toString(), 159);
        b.setLength(159);
        faulty(b.toString(), 159);
        b.setLength(158);
        faulty(b.toString(), 158);
    }

    /** A number's least and most may be; those one less and one more have their FAULT at its first digit. */
    private static void bounds(Face x, String ahead, String behind, int least, int most) {
        int at = ahead.length();
        for (int v : new int[] {least, most}) {
            good(x, ahead + v + behind, 1);
        }
        if (least < 10) {
            good(x, ahead + "0" + least + behind, 1);
        }
        faulty(x, ahead + (least == 0 ? "-1" : "" + (least - 1)) + behind, at);
        if (most < 99) {
            faulty(x, ahead + (most + 1) + behind, at);
        }
        faulty(x, ahead + behind, at);
        faulty(x, ahead + " " + least + behind, at);
        faulty(x, ahead + "x" + behind, at);
    }

    private static void numbersAtTheirEdges() {
        Face x = furnished();
        Checks.says("side N (only as many or more)");
        bounds(x, "side ", "", 6, 8);
        bounds(Watch.fresh(), "side ", "", 4, 8);
        Checks.due("as many", good(x, "side 6", 1).status(1), 6);
        Checks.due("more", good(x, "side 7", 1).status(1), 7);
        faulty(x, "side 7;side 6", 12);
        faulty(x, "side 10", 5);
        Checks.says("thing K A C");
        bounds(x, "thing ", " 1 5", 0, 6);
        bounds(x, "thing 1 ", " 5", 0, 9);
        bounds(x, "thing 1 9 ", "", 0, 5);
        bounds(x, "thing 1 9 ", "", 50, 55);
        Checks.says("box B C");
        bounds(x, "box ", " 5", 0, 1);
        bounds(x, "box 0 ", "", 20, 25);
        bounds(x, "box 1 ", "", 0, 5);
        Checks.says("power N");
        bounds(x, "power ", "", 10, 60);
        Checks.says("channel N");
        bounds(x, "channel ", "", 1, 13);
        Checks.says("neighbour C N");
        bounds(x, "neighbour ", " 5", 1, 13);
        bounds(x, "neighbour 13 ", "", 0, 20);
        Checks.says("device C W V");
        bounds(x, "device ", " 5 5", 30, 35);
        bounds(x, "device 5 ", " 5", 1, 5);
        bounds(x, "device 5 5 ", "", 1, 99);
        Checks.says("open T; shut T");
        bounds(x, "open ", "", 0, 1);
        bounds(x, "shut ", "", 0, 1);
        faulty("open 0", 5);
        faulty("shut 0", 5);
        faulty(x, "shut 2;thing 0 0 0", 5);
        good(x, "thing 0 0 0;shut 2;open 02", 3);
        Checks.says("minute N");
        bounds(x, "minute ", "", 0, 59);
    }

    private static void whatItemsTell() {
        Checks.says("thing K A C; box B C; power N; channel N; neighbour C N; device C W V; open T; shut T; minute N");
        Face x = good("side 6;thing 3 9 55;thing 2 04 05;box 0 50;box 1 12;power 10;channel 13", 7);
        x = good(x, "neighbour 1 20;device 45 5 99;open 1;minute 59;thing 6 0 0;shut 1;open 02", 7);
        int[] status = {3, 6, 1, 1, 10, 13, 59, 50, 12, 1};
        for (int what = 0; what < status.length; what++) {
            Checks.due("status " + what, x.status(what), status[what]);
        }
        int[][] things = {{3, 9, 55, 1, 24}, {2, 4, 5, 1, 4}, {6, 0, 0, 0, 0}};
        for (int i = 0; i < 3; i++) {
            for (int what = 0; what < 5; what++) {
                Checks.due("thing " + i + " " + what, x.thingOf(i, what), things[i][what]);
            }
        }
        int[] device = {45, 5, 99, 0};
        for (int what = 0; what < 4; what++) {
            Checks.due("device " + what, x.deviceOf(0, what), device[what]);
        }
        Checks.due("neighbour's channel", x.goesTo(0, 0), 1);
        x.ask(1, 1);
        Checks.due("neighbour's noise", x.hum(0, 1), 20);
        Checks.says("All is told over what there is, or nothing");
        x = good(furnished(), "thing 1 1 1;neighbour 9 9;device 0 1 1;box 1 5;open 0", 5);
        Checks.due("the first thing stays", x.thingOf(0, 2), 11);
        Checks.due("the third is new", x.thingOf(2, 2), 1);
        Checks.due("the first neighbour stays", x.goesTo(0, 0), 3);
        Checks.due("the second is new", x.goesTo(1, 0), 9);
        Checks.due("the first device stays", x.deviceOf(0, 0), 22);
        Checks.due("the second is new", x.deviceOf(1, 0), 0);
        Checks.due("box 1 went", x.status(8), 5);
        Checks.due("an old thing opens", x.thingOf(0, 3), 0);
        Checks.due("the other doesn't", x.thingOf(1, 3), 1);
        faulty(furnished(), "thing 1 1 1;neighbour 9 9;device 0 1 1;box 1 5;open 0;power 61", 60);
        faulty(furnished(), "side 8;minute 5;channel 2;box 0 1;power 20;shut 0;side 8;", 57);
    }

    /** A house where each number of an item may be that of a thing, a neighbour, a device. */
    private static Face inhabited() {
        Face x = Watch.fresh();
        x.side(5);
        for (int i = 0; i < 12; i++) {
            x.thing(i % 7, i % 10, 10 * (i % 5) + i / 5);
            x.shut(i, i % 3 != 0);
        }
        for (int i = 0; i < 4; i++) {
            x.neighbour(2 + 3 * i, 5 * i);
            x.device(11 * i, 1 + i, 20 * i + 7);
        }
        x.box(0, 22);
        x.box(1, 31);
        x.ask(2, 40);
        return x;
    }

    /** The item, read, changes what its call changes, and nothing else. */
    private static void likeItsCall(Face x, String item, ToIntFunction<Face> call) {
        Face read = Watch.twin(x);
        Checks.text(read, 0, item);
        Face told = Watch.twin(read);
        Checks.due("house " + item, read.house(0), 1);
        Checks.hold("the call of " + item, call.applyAsInt(told) >= 0);
        Checks.same(item + " is as its call", read, told);
    }

    private static void eachItemTellsItsOwnAlone() {
        Checks.says("side N; thing K A C; box B C; power N; channel N; neighbour C N; device C W V; open T; shut T; minute N");
        Face x = inhabited();
        for (int v = 0; v < 60; v++) {
            int n = v;
            likeItsCall(x, "minute " + n, y -> y.ask(2, n));
            likeItsCall(x, "power " + (10 + n % 51), y -> y.ask(0, 10 + n % 51));
            likeItsCall(x, "channel " + (1 + n % 13), y -> y.ask(1, 1 + n % 13));
            likeItsCall(x, "open " + n % 12, y -> y.shut(n % 12, false));
            likeItsCall(x, "shut " + n % 12, y -> y.shut(n % 12, true));
            int cell = 10 * (n % 5) + n / 5 % 5;
            likeItsCall(x, "box " + n % 2 + " " + cell, y -> y.box(n % 2, cell));
            likeItsCall(x, "thing " + n % 7 + " " + n % 10 + " " + cell, y -> y.thing(n % 7, n % 10, cell));
            likeItsCall(x, "neighbour " + (1 + n % 13) + " " + n % 21, y -> y.neighbour(1 + n % 13, n % 21));
            likeItsCall(x, "device " + cell + " " + (1 + n % 5) + " " + (99 - n), y -> y.device(cell, 1 + n % 5, 99 - n));
        }
        for (int n = 5; n <= 8; n++) {
            int side = n;
            likeItsCall(x, "side " + side, y -> y.side(side));
        }
    }

    private static void oneBlank() {
        Checks.says("One blank between words and NUMBERS (1 to 2 digits).");
        faulty("side", 4);
        faulty("side4", 4);
        faulty("side  4", 5);
        faulty("side\t4", 4);
        faulty("side 4 ", 6);
        faulty(" side 4", 0);
        faulty("box 01", 6);
        faulty("box 0", 5);
        faulty("box 0 ", 6);
        faulty("box 0  3", 6);
        faulty("box 0;3", 5);
        faulty("thing 1 2 3 ", 11);
        faulty("thing 1 2 3 4", 11);
        faulty("thing 1 2 +3", 10);
        good("thing 01 02 03", 1);
        faulty("thing 001 2 3", 8);
        faulty("thing 1 002 3", 10);
        faulty("thing 1 2 003", 12);
        faulty("minute 000", 9);
        faulty("power 500", 8);
        Checks.says("Numbers of a text may begin with 0.");
        Checks.due("05", good("minute 05", 1).status(6), 5);
        Checks.due("00", good("minute 00", 1).status(6), 0);
        faulty("channel 00", 8);
        faulty("power 09", 6);
    }

    private static void room() {
        Checks.says("what there is no room for can't stand: its word, once that is whole");
        Face x = Watch.fresh();
        for (int i = 0; i < 15; i++) {
            x.thing(0, 0, 0);
        }
        for (int i = 0; i < 7; i++) {
            x.neighbour(1, 0);
        }
        for (int i = 0; i < 5; i++) {
            x.device(0, 1, 1);
        }
        faulty(x, "thing 0 0 0;thing 0 0 0", 12);
        faulty(x, "neighbour 1 0;neighbour 1 0", 14);
        faulty(x, "device 0 1 1;device 0 1 1", 13);
        x = good(x, "thing 0 0 0;neighbour 1 0;device 0 1 1", 3);
        int[] full = {16, 4, 8, 6};
        for (int what = 0; what < 4; what++) {
            Checks.due("status " + what, x.status(what), full[what]);
        }
        full();
    }

    private static void full() {
        Face x = Watch.fresh();
        for (int i = 0; i < 16; i++) {
            x.thing(0, 0, 0);
        }
        for (int i = 0; i < 8; i++) {
            x.neighbour(1, 0);
        }
        for (int i = 0; i < 6; i++) {
            x.device(0, 1, 1);
        }
        faulty(x, "thing 0 0 0", 0);
        faulty(x, "neighbour 1 0", 0);
        faulty(x, "device 0 1 1", 0);
        faulty(x, "power 9;thing 0 0 0", 6);
        faulty(x, "power 10;thing 0 0 0", 9);
        good(x, "open 15;shut 15;box 1 3;side 5", 4);
        Checks.says("Whether there is room for a word is asked when its letters stand whole: "
            + "until then the first element that is not as it is the FAULT, or the number of elements.");
        for (String word : new String[] {"thing", "neighbour", "device"}) {
            for (int i = 1; i < word.length(); i++) {
                faulty(x, word.substring(0, i), i);
                faulty(x, word.substring(0, i) + "?", i);
                faulty(x, word.substring(0, i) + "?" + word.substring(i + 1) + " 1 1 1", i);
                faulty(x, "side 4;" + word.substring(0, i), 7 + i);
            }
            faulty(x, word, 0);
            faulty(x, word + "s", 0);
            faulty(x, word + " ", 0);
            faulty(x, word + " 99 99 99", 0);
            faulty(x, "side 4;" + word, 7);
        }
        Checks.says("a CELL outside: C");
        faulty("thing 0 0 4", 10);
        faulty("thing 0 0 04", 10);
        faulty("thing 0 0 40", 10);
        faulty("thing 0 0 44;side 5", 10);
        faulty("box 0 4", 6);
        faulty("device 40 1 1", 7);
        good("side 5;thing 0 0 44;box 0 44;device 44 1 1", 4);
        faulty("side 5;thing 0 0 45", 17);
        faulty("side 5;thing 0 0 54", 17);
    }

    private static void firstFault() {
        Checks.says("The FAULT: the first place at which an element can't stand as such texts go on");
        for (String word : WORDS) {
            for (int i = 0; i < word.length(); i++) {
                faulty(word.substring(0, i) + "?" + word.substring(i), i);
                faulty(word.substring(0, i) + word.substring(i).toUpperCase(), i);
                faulty("minute 0;" + word.substring(0, i) + " ", 9 + i);
            }
            faulty(word + "s 1", word.length());
            faulty(word + ";", word.length());
            faulty(word + word, word.length());
        }
        faulty("sahut 1", 1);
        faulty("dopen 1", 1);
        faulty("boxpower 1", 3);
        faulty("thing 7 9 99", 6);
        faulty("thing 6 10 99", 8);
        faulty("power 9;power 61", 6);
        faulty("side 4;?;power 61", 7);
        Checks.says("the number of elements, if it ends too early");
        for (String word : WORDS) {
            for (int i = 1; i <= word.length(); i++) {
                faulty(word.substring(0, i), i);
                faulty("minute 0;" + word.substring(0, i), 9 + i);
            }
            faulty(word + " ", word.length() + 1);
        }
        Checks.says("of a NUMBER that may not be the place of its first digit");
        faulty("power 1", 6);
        faulty("power 1;side 4", 6);
        faulty("power 1x", 6);
        faulty("power 613", 6);
        faulty("power 99", 6);
        faulty("minute 60;side 4", 7);
        faulty("device 11 06 1", 10);
    }

    /** Each beginning of a text: whole, cut in a NUMBER that may not be so, or too early at its end. */
    private static void beginnings() {
        Checks.says("the number of elements, if it ends too early");
        String text = "side 5;neighbour 13 20;box 1 43;power 20;minute 59";
        int[] whole = {6, 21, 22, 40, 49, 50};
        int[] items = {1, 2, 2, 4, 5, 5};
        for (int i = 0; i <= text.length(); i++) {
            int k = 0;
            while (k < whole.length && whole[k] != i) {
                k++;
            }
            String some = text.substring(0, i);
            if (k < whole.length) {
                good(some, items[k]);
            } else if (i == 39) {
                faulty(some, 38);
            } else if (i == 30) {
                // Box 1 in CELL 4.
                Checks.due("box 1 in 4", good(some, 3).status(8), 4);
            } else if (i == 31) {
                good(some, 3);
            } else {
                faulty(some, i);
            }
        }
    }

    private static void promise19House() {
        Checks.says("A HOUSE by the ROW in SHELF s: how many ITEMS. -1; -2; -3; -6 a FAULT.");
        Face x = furnished();
        x.row(0, 0, 0);
        for (int s : new int[] {-1, 8, Integer.MIN_VALUE, Integer.MAX_VALUE}) {
            Checks.refused("no shelf " + s, x, y -> y.house(s), -1);
        }
        Checks.refused("a thing", x, y -> y.house(3), -2);
        Checks.refused("nothing", x, y -> y.house(1), -3);
        faulty(x, "", 0);
        Checks.due("the last shelf", Checks.built("side 5").status(1), 5);
    }

    private static void promise20Fault() {
        Checks.says("The FAULT of the latest house() that came to a ROW; NONE: there was none, or none yet.");
        Face x = Watch.fresh();
        Checks.due("none yet", x.fault(), -1);
        x.house(0);
        Checks.due("none by a shelf of nothing", x.fault(), -1);
        x.row(0, 0, 0);
        x.house(0);
        Checks.due("of an empty row", x.fault(), 0);
        x.thing(0, 0, 0);
        x.show(1, 0);
        for (int s : new int[] {-1, 8, 1, 2}) {
            Checks.hold("no row " + s, x.house(s) < 0);
            Checks.due("the fault stays", x.fault(), 0);
        }
        Checks.text(x, 0, "side 4");
        Checks.due("a row by itself is no house", x.fault(), 0);
        x.house(0);
        Checks.due("none by a good one", x.fault(), -1);
        Checks.text(x, 0, "side 4;");
        x.house(0);
        Checks.due("anew", x.fault(), 7);
        x.image();
        x.restore();
        Checks.due("the image doesn't keep it", x.fault(), 7);
        x.set(0, 6, ' ');
        x.house(0);
        Checks.due("of the latest", x.fault(), 6);
    }

    public static void main(String[] args) {
        aRowOfLetters();
        itemsInARow();
        numbersAtTheirEdges();
        whatItemsTell();
        eachItemTellsItsOwnAlone();
        oneBlank();
        room();
        firstFault();
        beginnings();
        promise19House();
        promise20Fault();
        Checks.end("TextTest");
    }
}
