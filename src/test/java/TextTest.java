/** Promises 19 and 20: houses read from texts. */
public final class TextTest {
    private static void faulty(TwoBarsByTheWindow x, String text, int place) {
        Checks.text(x, 0, text);
        String ahead = Checks.whole(x).replaceAll("-?\\d+$", "");
        Checks.due("house " + text, x.house(0), -6);
        Checks.due("fault of " + text, x.fault(), place);
        Checks.hold("nothing changes by " + text, ahead.equals(Checks.whole(x).replaceAll("-?\\d+$", "")));
    }

    private static void good(TwoBarsByTheWindow x, String text, int items) {
        Checks.text(x, 0, text);
        Checks.due("house " + text, x.house(0), items);
        Checks.due("no fault of " + text, x.fault(), -1);
    }

    private static void promise19House() {
        TwoBarsByTheWindow x = new TwoBarsByTheWindow();
        good(x, "side 6;thing 3 9 55;thing 2 04 05;box 0 50;box 1 12;power 10;channel 13", 7);
        good(x, "neighbour 1 20;device 45 5 99;open 1;minute 59;thing 6 0 0;shut 1;open 02", 7);
        int[] status = {3, 6, 1, 1, 10, 13, 59, 50, 12, 1};
        for (int what = 0; what < status.length; what++) {
            Checks.due("status " + what, x.status(what), status[what]);
        }
        int[][] things = {{3, 9, 55, 1, 24}, {2, 4, 5, 1, 4}, {6, 0, 0, 0, 0}};
        for (int i = 0; i < 3; i++) {
            for (int what = 0; what < 5; what++) {
                Checks.due("thing " + i + " " + what, x.thingOf(i, what), things[i][what]);
            }
        }
        Checks.due("neighbour", x.goesTo(0, 0), 1);
        Checks.due("device's cell", x.deviceOf(0, 0), 45);
        Checks.due("device's want", x.deviceOf(0, 1), 5);
        Checks.due("device's worth", x.deviceOf(0, 2), 99);
        good(x, "side 6", 1);
        Checks.due("no shelf", x.house(8), -1);
        Checks.due("nothing", x.house(3), -3);
        x.show(3, 0);
        Checks.due("a thing", x.house(3), -2);
        Checks.due("-1 counted", x.status(11), 1);
        Checks.due("-2 counted", x.status(12), 1);
        Checks.due("-3 counted", x.status(13), 1);
        for (int sort = 0; sort < 4; sort++) {
            long high = sort == 3 ? 5L << 32 : 0L;
            String text = "minute 8";
            long[] letters = new long[text.length()];
            for (int i = 0; i < letters.length; i++) {
                letters[i] = text.charAt(i) + high;
            }
            x.ask(2, 0);
            Checks.fill(x, 1, sort, letters);
            Checks.due("a row of sort " + sort, x.house(1), 1);
            Checks.due("minute", x.status(6), 8);
        }
        Checks.fill(x, 1, 2, 'b' + 256, 'o', 'x', ' ', '0', ' ', '0');
        Checks.due("a letter and 256 is none", x.house(1), -6);
    }

    private static void promise20Fault() {
        TwoBarsByTheWindow x = new TwoBarsByTheWindow();
        Checks.due("none yet", x.fault(), -1);
        x.house(0);
        Checks.due("none by a refusal", x.fault(), -1);
        words(x);
        numbers(x);
        x.row(0, 0, 0);
        Checks.due("an empty row", x.house(0), -6);
        Checks.due("it ends too early", x.fault(), 0);
        faulty(x, "side 4;;", 7);
        Checks.due("no shelf", x.house(9), -1);
        Checks.due("the fault stays", x.fault(), 7);
        Checks.due("nothing", x.house(5), -3);
        Checks.due("the fault stays", x.fault(), 7);
        good(x, "side 4", 1);
    }

    private static void words(TwoBarsByTheWindow x) {
        String[] words = {
            "side", "thing", "box", "power", "channel", "neighbour", "device", "open", "shut", "minute"};
        for (String word : words) {
            for (int i = 0; i < word.length(); i++) {
                faulty(x, word.substring(0, i) + "?" + word.substring(i), i);
                if (i > 0) {
                    faulty(x, word.substring(0, i), i);
                    faulty(x, "minute 0;" + word.substring(0, i), 9 + i);
                }
            }
            faulty(x, word, word.length());
            faulty(x, word + "s 1", word.length());
            faulty(x, word + " ", word.length() + 1);
            faulty(x, word + "  ", word.length() + 1);
            faulty(x, word + ";", word.length());
        }
        faulty(x, "sahut 1", 1);
        faulty(x, " side 4", 0);
        faulty(x, "Side 4", 0);
    }

    private static void numbers(TwoBarsByTheWindow x) {
        faulty(x, "side 3", 5);
        faulty(x, "side 9", 5);
        faulty(x, "side 10", 5);
        faulty(x, "side 040", 7);
        faulty(x, "side 4 ", 6);
        faulty(x, "side 4;", 7);
        faulty(x, "side 5;side 4", 12);
        faulty(x, "thing 7 0 0", 6);
        faulty(x, "thing 0 10 0", 8);
        faulty(x, "thing 0 1 44", 10);
        faulty(x, "thing 0 1 4", 10);
        faulty(x, "thing 0 1", 9);
        faulty(x, "thing 0 1;", 9);
        faulty(x, "thing 0 1 333", 12);
        faulty(x, "thing 001 1 3", 8);
        faulty(x, "side 5;thing 0 1 44;", 20);
        faulty(x, "side 5;thing 0 1 55;", 17);
        faulty(x, "box 2 0", 4);
        faulty(x, "box 1 -1", 6);
        faulty(x, "power 9", 6);
        faulty(x, "power 61", 6);
        faulty(x, "power 1", 6);
        faulty(x, "power 100", 8);
        faulty(x, "channel 0", 8);
        faulty(x, "channel 14", 8);
        faulty(x, "neighbour 0 0", 10);
        faulty(x, "neighbour 13 21", 13);
        faulty(x, "device 0 0 1", 9);
        faulty(x, "device 0 6 1", 9);
        faulty(x, "device 0 1 0", 11);
        faulty(x, "device 0 1 100", 13);
        faulty(x, "open 0", 5);
        faulty(x, "thing 0 0 0;shut 1", 17);
        faulty(x, "minute 60", 7);
        faulty(x, "thing 0 0 0;minute 60", 19);
        good(x, "box 1 00;power 60;channel 1;neighbour 01 00;device 03 1 1", 5);
    }

    private static void room() {
        TwoBarsByTheWindow x = new TwoBarsByTheWindow();
        for (int i = 0; i < 15; i++) {
            x.thing(0, 0, 0);
        }
        for (int i = 0; i < 7; i++) {
            x.neighbour(1, 0);
        }
        for (int i = 0; i < 5; i++) {
            x.device(0, 1, 1);
        }
        faulty(x, "thing 0 0 0;thing 0 0 0", 12);
        faulty(x, "neighbour 1 0;neighbour 1 0", 14);
        faulty(x, "device 0 1 1;device 0 1 1", 13);
        faulty(x, "thing 0 0 0;thing", 12);
        faulty(x, "thing 0 0 0;things", 12);
        faulty(x, "thing 0 0 0;thin", 16);
        faulty(x, "thing 0 0 0;think", 16);
        good(x, "thing 0 0 0;neighbour 1 0;device 0 1 1", 3);
        faulty(x, "thing", 0);
        faulty(x, "neighbour 1 0", 0);
        faulty(x, "device 9 9 9", 0);
        faulty(x, "devic", 5);
        good(x, "open 15;shut 15;box 1 3", 3);
    }

    private static void longest() {
        TwoBarsByTheWindow x = new TwoBarsByTheWindow();
        StringBuilder b = new StringBuilder("side 08");
        for (int i = 0; i < 17; i++) {
            b.append(";minute ").append(i % 10);
        }
        Checks.due("all there is room for", b.length(), 160);
        good(x, b.toString(), 18);
        Checks.due("the last holds", x.status(6), 6);
        b.setCharAt(159, ' ');
        faulty(x, b.toString(), 159);
        b.setCharAt(158, ';');
        faulty(x, b.toString(), 158);
    }

    public static void main(String[] args) {
        promise19House();
        promise20Fault();
        room();
        longest();
        Checks.end("TextTest");
    }
}
