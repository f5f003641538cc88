/** The boundary cases of promises 6 to 13, and of "Terms" II on draws: pictures. */
final class PictureBoundaries extends Boundaries {
    private PictureBoundaries() {
    }

    static void all() {
        about();
        dot();
        often();
        set();
        fill();
        turn();
        part();
        noise();
        draws();
    }

    /** As large as can be, every dot of another shade: from 0 on, row by row. */
    static ShadeGrid unlikeDots() {
        int[] shades = new int[192];
        for (int d = 0; d < 192; d++) {
            shades[d] = d;
        }
        return painted(16, shades);
    }

    private static void about() {
        of(6);
        says("Of a PICTURE 0 WIDE, 1 HIGH", () -> {
            ShadeGrid g = full();
            is("the least wide", g.about(3, 0), 1);
            is("the least high", g.about(3, 1), 1);
            is("the most wide", g.about(2, 0), 16);
            is("the most high", g.about(2, 1), 12);
        });
        says("2 the least, 3 the greatest SHADE", () -> {
            ShadeGrid g = painted(1, 0);
            is("0", g.about(0, 2), 0);
            is("0", g.about(0, 3), 0);
            g = painted(1, 255);
            is("255", g.about(0, 2), 255);
            is("255", g.about(0, 3), 255);
            g = painted(3, 9, 5, 7);
            is("in the middle", g.about(0, 2), 5);
            is("the first", g.about(0, 3), 9);
            g = full();
            is("the last of all dots", g.about(2, 3), 200);
        });
        says("4 all SHADES together", () -> {
            ShadeGrid g = new ShadeGrid();
            g.fill(0, 16, 12, 255);
            is("the most", g.about(0, 4), 48960);
            g.fill(0, 16, 12, 0);
            is("the least", g.about(0, 4), 0);
        });
        says("5 how many unlike SHADES", () -> {
            is("one", painted(2, 7, 7).about(0, 5), 1);
            is("0 and 255, too", painted(3, 0, 255, 0).about(0, 5), 2);
            is("the most", unlikeDots().about(0, 5), 192);
        });
        says("NONE: 1 (what, too).", () -> {
            needsPicture((g, p) -> g.about(p, 0));
            bounds(0, 5, 1, (g, what) -> g.about(2, what));
        });
    }

    private static void dot() {
        of(7);
        says("The SHADE of a dot.", () -> {
            ShadeGrid g = unlikeDots();
            is("the first", g.dot(0, 0, 0), 0);
            is("the last of a row", g.dot(0, 15, 0), 15);
            is("the first of the next", g.dot(0, 0, 1), 16);
            is("the last of all", g.dot(0, 15, 11), 191);
        });
        says("NONE: 1.", () -> {
            needsPicture((g, p) -> g.dot(p, 0, 0));
            bounds(0, 15, 1, (g, x) -> g.dot(2, x, 11));
            bounds(0, 11, 1, (g, y) -> g.dot(2, 15, y));
            bounds(0, 2, 1, (g, x) -> g.dot(0, x, 0));
            bounds(0, 0, 1, (g, y) -> g.dot(3, 0, y));
        });
    }

    private static void often() {
        of(8);
        says("How many dots have a SHADE.", () -> {
            ShadeGrid g = full();
            is("none", g.often(2, 8), 0);
            is("one", g.often(2, 200), 1);
            is("all but one", g.often(2, 7), 191);
            g.fill(2, 16, 12, 255);
            is("all", g.often(2, 255), 192);
            is("none of 0", g.often(2, 0), 0);
        });
        says("NONE: 1; 2 (0 .. 255).", () -> {
            needsPicture((g, p) -> g.often(p, 0));
            bounds(0, 255, 2, (g, shade) -> g.often(2, shade));
            refuses(1, g -> g.often(NO_PICTURE, 256));
        });
    }

    private static void set() {
        of(9);
        says("ACT: the SHADE of a dot is v (0 .. 255)", () -> {
            bounds(0, 255, 2, (g, v) -> g.set(0, 0, 0, v));
            ShadeGrid g = full();
            g.set(2, 15, 11, 0);
            g.set(2, 0, 0, 255);
            is("0 at the last", g.dot(2, 15, 11), 0);
            is("255 at the first", g.dot(2, 0, 0), 255);
            is("no other", g.often(2, 7), 190);
            is("an act each", g.undo(), 5);
            is("undone", g.dot(2, 0, 0), 7);
        });
        says("what it was", () -> {
            ShadeGrid g = full();
            is("200", g.set(2, 15, 11, 200), 200);
            is("an act, though nothing is changed", g.undo(), 4);
            is("0", g.set(0, 0, 0, 1), 0);
            is("255", g.set(1, 0, 0, 1), 255);
        });
        says("NONE: 1; 2.", () -> {
            needsPicture((g, p) -> g.set(p, 0, 0, 1));
            bounds(0, 15, 1, (g, x) -> g.set(2, x, 0, 1));
            bounds(0, 11, 1, (g, y) -> g.set(2, 0, y, 1));
            refuses(1, g -> g.set(NO_PICTURE, 0, 0, 256));
            refuses(1, g -> g.set(0, 3, 0, -1));
            refuses(1, g -> g.set(0, 0, 2, 256));
        });
    }

    private static void fill() {
        of(10);
        says("ACT: a PICTURE of one SHADE (to 0 .. 5)", () -> {
            needsPlace((g, to) -> yes(g.fill(to, 2, 3, 4)));
            ShadeGrid g = full();
            g.fill(5, 16, 12, 255);
            is("the most dots", g.often(5, 255), 192);
            g.fill(5, 1, 1, 0);
            dots(g, 5, 1, 0);
            is("an act each", g.undo(), 5);
            is("undone", g.often(5, 255), 192);
        });
        says("true", () -> {
            is("the least", new ShadeGrid().fill(0, 1, 1, 0), true);
            is("the most", new ShadeGrid().fill(5, 16, 12, 255), true);
        });
        says("false: 1 (to); 2 (WIDE, HIGH, SHADE).", () -> {
            bounds(1, 16, 2, (g, wide) -> yes(g.fill(0, wide, 1, 0)));
            bounds(1, 12, 2, (g, high) -> yes(g.fill(0, 1, high, 0)));
            bounds(0, 255, 2, (g, v) -> yes(g.fill(0, 1, 1, v)));
            refuses(1, g -> yes(g.fill(6, 0, 13, 256)));
            refuses(1, g -> yes(g.fill(-1, 17, 0, -1)));
        });
    }

    private static void turn() {
        of(11);
        says("ACT: a PICTURE like another one, 0 as it is", () -> {
            ShadeGrid g = unlikeDots();
            g.turn(5, 0, 0);
            is("all dots", g.apart(0, 5, 0), 0);
            g.turn(0, 0, 0);
            is("an act, though nothing is changed", g.undo(), 9);
        });
        says("1 left and right changed", () -> {
            ShadeGrid g = unlikeDots();
            g.turn(5, 0, 1);
            is("a corner", g.dot(5, 0, 0), 15);
            is("a corner", g.dot(5, 15, 11), 176);
            dots(turned(3, 1, 1, 2, 3), 0, 3, 3, 2, 1);
            dots(turned(1, 1, 1, 2, 3), 0, 1, 1, 2, 3);
        });
        says("2 above and below changed", () -> {
            ShadeGrid g = unlikeDots();
            g.turn(5, 0, 2);
            is("a corner", g.dot(5, 0, 0), 176);
            is("a corner", g.dot(5, 15, 11), 15);
            dots(turned(1, 2, 1, 2, 3), 0, 1, 3, 2, 1);
            dots(turned(3, 2, 1, 2, 3), 0, 3, 1, 2, 3);
        });
        says("3 x and y changed", () -> {
            dots(turned(3, 3, 1, 2, 3), 0, 1, 1, 2, 3);
            dots(turned(1, 3, 1, 2, 3), 0, 3, 1, 2, 3);
            dots(turned(2, 3, 1, 2, 3, 4, 5, 6), 0, 3, 1, 3, 5, 2, 4, 6);
            ShadeGrid g = new ShadeGrid();
            g.fill(0, 12, 12, 0);
            g.set(0, 11, 0, 9);
            g.turn(0, 0, 3);
            is("a corner", g.dot(0, 0, 11), 9);
            g.fill(0, 1, 12, 5);
            g.turn(0, 0, 3);
            is("12 wide", g.about(0, 0), 12);
        });
        says("4 each SHADE 255 less it", () -> dots(turned(3, 4, 0, 255, 128), 0, 3, 255, 0, 127));
        says("true", () -> is("of one dot", painted(1, 5).turn(0, 0, 3), true));
        says("false: 1 (to, the PICTURE, what)", () -> {
            needsPlace((g, to) -> yes(g.turn(to, 1, 1)));
            needsPicture((g, of) -> yes(g.turn(5, of, 0)));
            bounds(0, 4, 1, (g, what) -> yes(g.turn(5, 0, what)));
        });
        says("3 (3 of one that is more than 12 WIDE).", () -> {
            refuses(3, () -> wide(13), g -> yes(g.turn(1, 0, 3)));
            refuses(3, g -> yes(g.turn(0, 2, 3)));
            is("12 wide", wide(12).turn(1, 0, 3), true);
            for (int what : new int[] {0, 1, 2, 4}) {
                is("13 wide, by " + what, wide(13).turn(1, 0, what), true);
            }
            refuses(1, g -> yes(g.turn(6, 2, 3)));
            refuses(1, g -> yes(g.turn(0, 2, 5)));
        });
    }

    private static ShadeGrid turned(int wide, int what, int... shades) {
        ShadeGrid g = painted(wide, shades);
        g.turn(0, 0, what);
        return g;
    }

    private static ShadeGrid wide(int wide) {
        ShadeGrid g = new ShadeGrid();
        g.fill(0, wide, 1, 3);
        return g;
    }

    private static void part() {
        of(12);
        says("ACT: a part of a PICTURE from x, y on, so WIDE and HIGH", () -> {
            ShadeGrid g = unlikeDots();
            g.part(1, 0, 15, 11, 1, 1);
            dots(g, 1, 1, 191);
            g.part(1, 0, 0, 0, 16, 12);
            is("all of it", g.apart(0, 1, 0), 0);
            g.part(0, 0, 14, 10, 2, 2);
            dots(g, 0, 2, 174, 175, 190, 191);
            is("an act each", g.undo(), 9);
            is("undone", g.apart(0, 1, 0), 0);
        });
        says("true", () -> is("of one dot", painted(1, 5).part(0, 0, 0, 0, 1, 1), true));
        says("false: 1 (to, the PICTURE, the dot x, y)", () -> {
            needsPlace((g, to) -> yes(g.part(to, 1, 1, 1, 2, 2)));
            needsPicture((g, of) -> yes(g.part(5, of, 0, 0, 1, 1)));
            bounds(0, 3, 1, (g, x) -> yes(g.part(5, 1, x, 0, 1, 1)));
            bounds(0, 2, 1, (g, y) -> yes(g.part(5, 1, 0, y, 1, 1)));
            refuses(1, g -> yes(g.part(6, 1, 0, 0, 0, 0)));
            refuses(1, g -> yes(g.part(0, NO_PICTURE, 0, 0, 0, 0)));
            refuses(1, g -> yes(g.part(0, 1, 4, 0, 1, 9)));
            refuses(1, g -> yes(g.part(0, 1, 0, 3, 9, 1)));
        });
        says("2 (it hasn't so much).", () -> {
            bounds(1, 4, 2, (g, wide) -> yes(g.part(5, 1, 0, 0, wide, 3)));
            bounds(1, 3, 2, (g, high) -> yes(g.part(5, 1, 0, 0, 4, high)));
            bounds(1, 1, 2, (g, wide) -> yes(g.part(5, 1, 3, 0, wide, 1)));
            bounds(1, 1, 2, (g, high) -> yes(g.part(5, 1, 0, 2, 1, high)));
            // x and the width together are beyond all ints
            refuses(2, g -> yes(g.part(5, 1, 3, 2, MOST - 2, 1)));
            refuses(2, g -> yes(g.part(5, 1, 3, 2, 1, MOST - 1)));
        });
    }

    private static void noise() {
        of(13);
        says("ACT: to each dot, row by row from the top, from the left, a DRAW of 2 by + 1 less by comes", () -> {
            // seed 45438 becomes 0, 74, 5624, 28652; mod 255: 0, 74, 14, 92
            dots(noisy(2, 45438, 127, 200, 200, 200, 200), 0, 2, 73, 147, 87, 165);
            dots(noisy(1, 45438, 1, 100, 100), 0, 1, 99, 101);
            dots(noisy(2, 45438, 0, 100, 100), 0, 2, 100, 100);
            ShadeGrid g = full();
            g.noise(0, 0, 0);
            dots(g, 0, 3, 0, 17, 34, 51, 68, 85);
            is("an act, though nothing is changed", g.undo(), 4);
            g.noise(3, 45438, 1);
            dots(g, 3, 1, 8);
            // 65,536 becomes 65,536 again: mod 5 it is 1, less 2
            is("as many dots as can be", g.noise(2, 65536, 2), 192);
            is("as many dots as can be", g.about(2, 4), 191 * 6 + 199);
        });
        says("held within 0 .. 255", () -> {
            // seed 45438 becomes 0: 127 less; 52432 becomes 254: 127 more
            dots(noisy(1, 45438, 127, 126), 0, 1, 0);
            dots(noisy(1, 45438, 127, 127), 0, 1, 0);
            dots(noisy(1, 45438, 127, 128), 0, 1, 1);
            dots(noisy(1, 52432, 127, 127), 0, 1, 254);
            dots(noisy(1, 52432, 127, 128), 0, 1, 255);
            dots(noisy(1, 52432, 127, 129), 0, 1, 255);
        });
        says("(SEED 0 .. 65,536; by 0 .. 127)", () -> {
            bounds(0, 65536, 2, (g, seed) -> g.noise(0, seed, 1));
            bounds(0, 127, 2, (g, by) -> g.noise(0, 1, by));
        });
        says("how many dots are others then", () -> {
            is("all", painted(2, 100, 100).noise(0, 45438, 1), 2);
            is("none by 0", painted(2, 100, 100).noise(0, 45438, 0), 0);
            is("one held where it was", painted(2, 0, 100).noise(0, 45438, 1), 1);
            // 0 less 127, 74 less 127, 5624 mod 255 is 14
            is("held, all of them", painted(3, 0, 0, 0).noise(0, 45438, 127), 0);
        });
        says("NONE: 1; 2.", () -> {
            needsPicture((g, p) -> g.noise(p, 1, 1));
            refuses(1, g -> g.noise(NO_PICTURE, -1, 1));
            refuses(1, g -> g.noise(6, 0, 128));
        });
    }

    private static void draws() {
        of(Document.TERMS);
        says("A DRAW: SEED becomes (75 times SEED and 74) mod 65,537; mod m.", () -> {
            dots(noisy(1, 0, 127, 200), 0, 1, 200 + 74 - 127);
            // the greatest that stays below 65,537 and the least that does not: 65474 and 65549
            dots(noisy(1, 872, 127, 100), 0, 1, 100 + 194 - 127);
            dots(noisy(1, 873, 127, 200), 0, 1, 200 + 12 - 127);
            // 65,536 becomes 65,536 again: mod 255 it is 1, mod 253 it is 9, mod 3 it is 1
            dots(noisy(2, 65536, 127, 200, 200), 0, 2, 74, 74);
            dots(noisy(2, 65536, 126, 200, 200), 0, 2, 83, 83);
            dots(noisy(2, 65536, 1, 200, 200), 0, 2, 200, 200);
            // mod 65,537 it is 0 itself
            dots(noisy(2, 45438, 127, 200, 200), 0, 2, 73, 147);
        });
    }

    private static ShadeGrid noisy(int wide, int seed, int by, int... shades) {
        ShadeGrid g = painted(wide, shades);
        g.noise(0, seed, by);
        return g;
    }
}
