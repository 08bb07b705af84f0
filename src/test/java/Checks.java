import java.util.function.ToIntFunction;

/** What the tests share: answers that are due, refusals that change nothing else, rows filled in one go. */
final class Checks {
    private static int wrong = 0;
    private static int seen = 0;
    private static String sentence = "";

    private Checks() {
    }

    /** The document's words that the checks from here on hold the program to. */
    static void says(String words) {
        sentence = words;
    }

    static void due(String call, long got, long want) {
        seen++;
        if (got != want) {
            wrong++;
            System.out.println(call + " answered " + got + ", due is " + want
                + (sentence.isEmpty() ? "" : " [" + sentence + "]"));
        }
    }

    static void hold(String what, boolean holds) {
        due(what, holds ? 1 : 0, 1);
    }

    /** A row of a sort with these elements. */
    static void fill(Face x, int s, int sort, long... elements) {
        due("row", x.row(s, sort, elements.length), 1);
        for (int i = 0; i < elements.length; i++) {
            due("set", x.set(s, i, elements[i]), 1);
        }
    }

    /** A row of bytes with a text's letters. */
    static void text(Face x, int s, String text) {
        long[] letters = new long[text.length()];
        for (int i = 0; i < letters.length; i++) {
            letters[i] = text.charAt(i);
        }
        fill(x, s, 0, letters);
    }

    /** A house read whole from texts, as many as are given. */
    static Face built(String... texts) {
        Face x = Watch.fresh();
        for (String text : texts) {
            text(x, 7, text);
            hold(text, x.house(7) > 0);
        }
        x.show(7, -1);
        return x;
    }

    /** The call answers this and is counted as it, and nothing else changes; two twins are asked, not x. */
    static void refused(String call, Face x, ToIntFunction<Face> told, int due) {
        Face as = Watch.twin(x);
        Face then = Watch.twin(x);
        due(call, told.applyAsInt(then), due);
        counted(call, then, as, due < -10 ? -due - 10 : -due);
        due(call + ": the FAULT", then.fault(), as.fault());
        same(call + ": nothing else changes", then, as);
    }

    /** No refusal is counted and nothing changes; two twins are asked, not x. */
    static void onlyTells(String call, Face x, ToIntFunction<Face> told, int due) {
        Face as = Watch.twin(x);
        Face then = Watch.twin(x);
        due(call, told.applyAsInt(then), due);
        counted(call, then, as, 0);
        due(call + ": the FAULT", then.fault(), as.fault());
        same(call + ": nothing changes", then, as);
    }

    /** One refusal -code more than there were, and none of another number; none at all for 0. */
    static void counted(String call, Face then, Face as, int code) {
        for (int k = 1; k <= 7; k++) {
            due(call + ", -" + k + " counted", then.status(10 + k) - as.status(10 + k), k == code ? 1 : 0);
        }
    }

    static void same(String what, Face x, Face y) {
        String one = whole(x);
        String other = whole(y);
        if (!one.equals(other)) {
            System.out.println(one + "\n" + other);
        }
        hold(what, one.equals(other));
    }

    /** All that calls can see of the state but the refusals and the FAULT; x is spent by it: the image is seen too. */
    static String whole(Face x) {
        StringBuilder b = new StringBuilder(house(x));
        for (int s = 0; s < 8; s++) {
            int holds = x.holds(s);
            b.append(" s").append(holds);
            for (int i = 0; i < Watch.sizeOf(x, s) && holds >= 100; i++) {
                b.append(':').append(x.element(s, i));
            }
        }
        int bodies = x.status(10);
        for (int i = 0; i < bodies; i++) {
            b.append(" b").append(x.trace(i));
        }
        b.append(" image ").append(x.restore());
        return b.append(house(x)).toString();
    }

    /** All that an image keeps, as far as calls can see it. */
    private static String house(Face x) {
        StringBuilder b = new StringBuilder();
        for (int what = 0; what <= 9; what++) {
            b.append(x.status(what)).append(' ');
        }
        int things = x.status(0);
        int neighbours = x.status(2);
        int devices = x.status(3);
        for (int i = 0; i < things; i++) {
            b.append(" t");
            for (int what = 0; what < 4; what++) {
                b.append(x.thingOf(i, what)).append(',');
            }
        }
        for (int i = 0; i < devices; i++) {
            b.append(" d");
            for (int what = 0; what < 4; what++) {
                b.append(x.deviceOf(i, what)).append(',');
            }
        }
        int on = x.status(5);
        for (int i = 0; i < neighbours; i++) {
            b.append(" n").append(x.goesTo(i, 0));
        }
        for (int c = 1; c <= 13 && neighbours > 0; c++) {
            x.ask(1, c);
            b.append('/').append(x.hum(0, 1));
        }
        x.ask(1, on);
        return b.toString();
    }

    static void end(String name) {
        System.out.println(name + ": " + seen + " looked at, " + wrong + " not as due");
        if (wrong != 0 || seen == 0) {
            System.exit(1);
        }
    }
}
