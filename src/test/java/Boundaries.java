import java.io.IOException;
import java.nio.file.Path;
import java.util.function.Supplier;

/**
 * What the tests of the document's boundary cases share. Each test quotes the words that it is of;
 * BoundariesTest sees to it that no word of the terms and the promises is left without one.
 */
abstract class Boundaries extends Checks {
    static final int LEAST = Integer.MIN_VALUE;
    static final int MOST = Integer.MAX_VALUE;
    static final int NO_PICTURE = 5;

    private static Document document;
    private static int promise;

    /** A call whose answer, refused, is NONE. */
    interface Call {
        long on(ShadeGrid g);
    }

    /** A call with one number left open. */
    interface CallWith {
        long on(ShadeGrid g, int number);
    }

    static void open(Path path) throws IOException {
        document = new Document(path);
    }

    /** The promise whose words are quoted from now on. */
    static void of(int number) {
        promise = number;
    }

    static void says(String words, Runnable test) {
        at((promise == Document.TERMS ? "terms" : "promise " + promise) + " \"" + words + "\"");
        if (!document.quote(promise, words)) {
            fails("the document does not say so");
        }
        test.run();
    }

    static void everyWordIsQuoted() {
        at("DOC.md");
        for (String words : document.unquoted()) {
            fails("no test quotes " + words);
        }
    }

    static long yes(boolean answer) {
        return answer ? 1 : NONE;
    }

    /**
     * Something of all that an object can have. Pictures 0 and 4 are 3 by 2, picture 1 is 4 by 3,
     * picture 2 is as large as can be, picture 3 has one dot, there is none at 5; four acts, a grid,
     * something written, 20 bytes on the tape.
     */
    static ShadeGrid full() {
        ShadeGrid g = told("pic one abc/def;pic two ponm/lkji/hgfe");
        g.fill(2, 16, 12, 7);
        g.set(2, 15, 11, 200);
        g.fill(3, 1, 1, 9);
        g.turn(4, 0, 4);
        g.grid(0, 4, 2, 16);
        g.blur(0);
        g.blur(2);
        g.write(1);
        feedAll(g, "pic new gh/ij");
        return g;
    }

    // ---- refused calls

    /** Refused by this number, and nothing is changed but trouble(), where(). */
    static void refuses(int number, Supplier<ShadeGrid> made, Call call) {
        ShadeGrid g = made.get();
        is("the answer", call.on(g), NONE);
        is("trouble()", g.trouble(), number);
        is("where()", g.where(), NONE);
        String got = stateOf(g);
        String due = stateOf(made.get());
        if (!got.equals(due)) {
            fails("changed, though refused by " + number + ": " + got + " was " + due);
        }
    }

    static void refuses(int number, Call call) {
        refuses(number, Boundaries::full, call);
    }

    /** Every number from least to most is taken at its ends; beyond them the call is refused. */
    static void bounds(int least, int most, int number, Supplier<ShadeGrid> made, CallWith call) {
        for (int end : new int[] {least, most}) {
            ShadeGrid g = made.get();
            call.on(g, end);
            is("trouble() with " + end, g.trouble(), 0);
        }
        for (int beyond : new int[] {LEAST, least - 1, most + 1, MOST}) {
            refuses(number, made, g -> call.on(g, beyond));
        }
    }

    static void bounds(int least, int most, int number, CallWith call) {
        bounds(least, most, number, Boundaries::full, call);
    }

    /** A picture that is read from: one that is there, of full()'s. */
    static void needsPicture(CallWith call) {
        bounds(0, 4, 1, call);
        refuses(1, g -> call.on(g, NO_PICTURE));
    }

    /** A place that a picture is put to: 0 .. 5, with or without one there. */
    static void needsPlace(CallWith call) {
        bounds(0, 5, 1, call);
    }

    // ---- all that an object tells, at the end of its use

    static String stateOf(ShadeGrid g) {
        StringBuilder all = new StringBuilder();
        all.append("fault ").append(g.fault()).append(" bytes ").append(g.bytes());
        for (int k = 0; g.octet(k) != NONE; k++) {
            all.append(k == 0 ? " written " : "").append((char) g.octet(k));
        }
        names(g, all);
        grid(g, all);
        pictures(g, all);
        for (int left = 1; left > 0;) {
            left = g.undo();
            all.append(" undone, left ").append(left);
            pictures(g, all);
        }
        all.append(" text ").append(g.text(g.bytes())).append(" where ").append(g.where());
        pictures(g, all);
        return all.toString();
    }

    private static void names(ShadeGrid g, StringBuilder all) {
        for (int p = 0; p < 4; p++) {
            for (int k = 0; !noLetter(g, p, k); k++) {
                all.append(k == 0 ? " name " : "").append((char) ('a' + g.letter(p, k)));
            }
        }
    }

    private static void grid(ShadeGrid g, StringBuilder all) {
        for (int what = 0; what < 6; what++) {
            all.append(what == 0 ? " grid" : "").append(' ').append(g.gridded(what));
        }
        all.append(" total ").append(g.total(0)).append(' ').append(g.total(1));
        for (int m = 0; m < 3; m++) {
            int i = g.nth(m, 0);
            int j = g.nth(m, 1);
            int k = g.nth(m, 2);
            all.append(" node ").append(i).append(' ').append(j).append(' ').append(k);
            all.append(": ").append(g.node(i, j, k, 0)).append(' ').append(g.node(i, j, k, 1));
        }
        all.append(" read ").append(g.readShade(0, 0)).append(' ').append(g.readShade(2, 1));
    }

    private static void pictures(ShadeGrid g, StringBuilder all) {
        for (int p = 0; p < 6; p++) {
            all.append(" picture ").append(g.about(p, 0)).append(' ').append(g.about(p, 1));
            all.append(' ').append(g.about(p, 4)).append(' ').append(g.steep(p, 0)).append(' ').append(g.dot(p, 0, 0));
        }
    }
}
