/** What the tests share: answers that are due, and rows filled in one go. */
final class Checks {
    private static int wrong = 0;
    private static int seen = 0;

    private Checks() {
    }

    static void due(String call, long got, long want) {
        seen++;
        if (got != want) {
            wrong++;
            System.out.println(call + " answered " + got + ", due is " + want);
        }
    }

    static void hold(String what, boolean holds) {
        due(what, holds ? 1 : 0, 1);
    }

    /** A row of a sort with these elements. */
    static void fill(TwoBarsByTheWindow x, int s, int sort, long... elements) {
        due("row", x.row(s, sort, elements.length), 1);
        for (int i = 0; i < elements.length; i++) {
            due("set", x.set(s, i, elements[i]), 1);
        }
    }

    /** A row of ints with a text's letters. */
    static void text(TwoBarsByTheWindow x, int s, String text) {
        long[] letters = new long[text.length()];
        for (int i = 0; i < letters.length; i++) {
            letters[i] = text.charAt(i);
        }
        fill(x, s, 2, letters);
    }

    /** A house read whole from texts, as many as are given. */
    static TwoBarsByTheWindow built(String... texts) {
        TwoBarsByTheWindow x = new TwoBarsByTheWindow();
        for (String text : texts) {
            text(x, 7, text);
            hold(text, x.house(7) > 0);
        }
        x.show(7, -1);
        return x;
    }

    /** All that a call can see of the state: for what must not change. */
    static String whole(TwoBarsByTheWindow x) {
        StringBuilder b = new StringBuilder();
        for (int what = 0; what <= 10; what++) {
            b.append(x.status(what)).append(' ');
        }
        for (int i = 0; i < x.status(0); i++) {
            for (int what = 0; what < 5; what++) {
                b.append(x.thingOf(i, what)).append(',');
            }
        }
        for (int i = 0; i < x.status(3); i++) {
            for (int what = 0; what < 6; what++) {
                b.append(x.deviceOf(i, what)).append(',');
            }
        }
        for (int i = 0; i < x.status(2); i++) {
            b.append(x.goesTo(i, 0)).append('/');
        }
        b.append(x.hum(0, 1));
        for (int s = 0; s < 8; s++) {
            b.append(' ').append(x.holds(s));
            for (int i = 0; i < 160 && x.holds(s) >= 100; i++) {
                b.append(':').append(x.element(s, i));
            }
        }
        for (int i = 0; i < 20; i++) {
            b.append(' ').append(x.trace(i));
        }
        return b.append(' ').append(x.fault()).toString();
    }

    static void end(String name) {
        System.out.println(name + ": " + seen + " looked at, " + wrong + " not as due");
        if (wrong != 0 || seen == 0) {
            System.exit(1);
        }
    }
}
