/** What the tests share: telling an answer that is not as due, and making objects with pictures. */
abstract class Checks {
    static final int NONE = ShadeGrid.NONE;
    private static int wrong = 0;
    private static String place = "";

    /** What is told ahead of each wrong answer from now on. */
    static void at(String now) {
        place = now;
    }

    static void fails(String what) {
        wrong++;
        System.out.println(place + ": " + what);
    }

    static void is(String call, long got, long due) {
        if (got != due) {
            fails(call + " answered " + got + ", due is " + due);
        }
    }

    static void is(String call, boolean got, boolean due) {
        is(call, got ? 1 : 0, due ? 1 : 0);
    }

    static void end(String good) {
        System.out.println(wrong == 0 ? good : wrong + " answers are not as due");
        if (wrong != 0) {
            System.exit(1);
        }
    }

    /** The text comes to the tape, with blanks behind it up to the next 20 bytes. */
    static int feedAll(ShadeGrid g, String text) {
        String padded = text + " ".repeat((20 - text.length() % 20) % 20);
        int[] n = new int[5];
        int answer = 0;
        for (int at = 0; at < padded.length(); at += 20) {
            for (int a = 0; a < 5; a++) {
                n[a] = 0;
                for (int b = 0; b < 4; b++) {
                    n[a] = n[a] << 8 | padded.charAt(at + 4 * a + b);
                }
            }
            answer = g.feed(n[0], n[1], n[2], n[3], n[4]);
        }
        return answer;
    }

    static int tell(ShadeGrid g, String text) {
        feedAll(g, text);
        return g.text(text.length());
    }

    static ShadeGrid told(String text) {
        ShadeGrid g = new ShadeGrid();
        if (tell(g, text) < 1) {
            fails("the text " + text + " was refused");
        }
        return g;
    }

    /** The dots of a picture must be these, row by row, and it so wide. */
    static void dots(ShadeGrid g, int p, int wide, int... due) {
        is("about(" + p + ", 0)", g.about(p, 0), wide);
        is("about(" + p + ", 1)", g.about(p, 1), due.length / wide);
        for (int d = 0; d < due.length; d++) {
            is("dot(" + p + ", " + d % wide + ", " + d / wide + ")", g.dot(p, d % wide, d / wide), due[d]);
        }
    }

    static void paint(ShadeGrid g, int p, int wide, int... shades) {
        g.fill(p, wide, shades.length / wide, 0);
        for (int d = 0; d < shades.length; d++) {
            g.set(p, d % wide, d / wide, shades[d]);
        }
    }

    static ShadeGrid painted(int wide, int... shades) {
        ShadeGrid g = new ShadeGrid();
        paint(g, 0, wide, shades);
        return g;
    }

    static boolean noLetter(ShadeGrid g, int p, int k) {
        try {
            g.letter(p, k);
        } catch (java.util.NoSuchElementException e) {
            return true;
        }
        return false;
    }
}
