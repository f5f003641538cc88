import java.util.function.Supplier;

/** The boundary cases of promises 22 to 34, and of "Terms" II on SMOOTH and BOX. */
final class SmoothingBoundaries extends Boundaries {
    private SmoothingBoundaries() {
    }

    static void all() {
        terms();
        smooth();
        box();
        median();
        mix();
        above();
        levels();
        stretch();
        larger();
        smaller();
        rests();
        edges();
        kept();
        flat();
    }

    /** Picture 3 is as wide as picture 0, picture 5 as high, but neither is both. */
    private static ShadeGrid unlike() {
        ShadeGrid g = full();
        g.fill(3, 3, 1, 7);
        g.fill(5, 2, 2, 7);
        return g;
    }

    private static ShadeGrid filled(int wide, int high) {
        ShadeGrid g = new ShadeGrid();
        g.fill(0, wide, high, 3);
        return g;
    }

    private static void terms() {
        of(Document.TERMS);
        says("SMOOTH of a PICTURE by a GUIDE, s, r, n (0 .. 3): THE GRID, n times BLUR along all three ways; each dot "
                + "is the SHADE READ there by the GUIDE's SHADE.", () -> {
            bounds(0, 3, 2, (g, n) -> g.smooth(5, 0, 4, 1, 8, n));
            // by a guide of one shade: not at all, 2 to 1, 6 to 4, 20 to 15
            int[][] due = {{0, 255}, {85, 170}, {102, 153}, {109, 146}};
            for (int n = 0; n <= 3; n++) {
                ShadeGrid g = painted(2, 0, 255);
                g.fill(1, 2, 1, 255);
                g.smooth(2, 0, 1, 1, 8, n);
                dots(g, 2, 2, due[n]);
                g.turn(0, 0, 3);
                g.fill(1, 1, 2, 0);
                g.smooth(2, 0, 1, 1, 8, n);
                dots(g, 2, 1, due[n]);
            }
            // a node apart in shade and in place: 1 to 4, 16 to 36, 225 to 400
            int[][] own = {{0, 16}, {3, 13}, {5, 11}, {6, 10}};
            for (int n = 0; n <= 3; n++) {
                ShadeGrid g = painted(2, 0, 16);
                g.smooth(0, 0, 0, 1, 16, n);
                dots(g, 0, 2, own[n]);
            }
        });
        says("BOX of n (0 .. 4): each dot is the sum of all dots not further than n to each side from it", () -> {
            bounds(0, 4, 2, (g, n) -> g.box(5, 2, n));
            for (int n = 0; n <= 4; n++) {
                ShadeGrid g = filled(16, 12);
                g.fill(0, 16, 12, 0);
                g.set(0, 6, 5, 255);
                g.box(1, 0, n);
                for (int side = -5; side <= 5; side++) {
                    boolean near = side >= -n && side <= n;
                    is(n + ", " + side + " to the side", g.dot(1, 6 + side, 5) > 0, near);
                    is(n + ", " + side + " below", g.dot(1, 6, 5 + side) > 0, near);
                    is(n + ", to both sides", g.dot(1, 6 + side, 5 + side) > 0, near);
                }
            }
        });
        says("(those there are), by how many these are", () -> {
            is("one dot", boxed(painted(1, 255), 4).dot(1, 0, 0), 255);
            // a corner has 4, a side 6, the middle 9
            ShadeGrid g = boxed(painted(3, 36, 0, 0, 0, 0, 0, 0, 0, 0), 1);
            dots(g, 1, 3, 9, 6, 0, 6, 4, 0, 0, 0, 0);
            g = boxed(painted(3, 0, 0, 0, 0, 0, 0, 0, 0, 36), 1);
            dots(g, 1, 3, 0, 0, 0, 0, 4, 6, 0, 6, 9);
            g = filled(16, 12);
            g.fill(0, 16, 12, 255);
            g.box(0, 0, 4);
            is("all of one shade", g.about(0, 4), 48960);
        });
        says("to the nearest, of two as near the lower.", () -> {
            dots(boxed(painted(2, 0, 1), 1), 1, 2, 0, 0);
            dots(boxed(painted(2, 255, 254), 1), 1, 2, 254, 254);
            dots(boxed(painted(3, 0, 1, 1), 4), 1, 3, 1, 1, 1);
            dots(boxed(painted(3, 0, 0, 1), 4), 1, 3, 0, 0, 0);
        });
    }

    private static ShadeGrid boxed(ShadeGrid g, int n) {
        g.box(1, 0, n);
        return g;
    }

    private static void smooth() {
        of(22);
        says("ACT: SMOOTH: how many dots are others than the PICTURE's.", () -> {
            ShadeGrid g = full();
            is("none", g.smooth(5, 2, 2, 1, 8, 0), 0);
            is("an act", g.undo(), 4);
            is("undone", g.about(5, 0), NONE);
            g.fill(3, 16, 12, 0);
            g.smooth(5, 3, 3, 8, 128, 3);
            is("as many dots as can be", g.about(5, 4), 0);
            is("none of one shade", g.smooth(3, 3, 3, 8, 128, 3), 0);
            // beside picture 0 at 4: it is the picture that counts, not what stood there
            is("none, though all of what stood there", g.smooth(4, 0, 0, 1, 8, 0), 0);
            dots(g, 4, 3, 0, 17, 34, 51, 68, 85);
            g = painted(2, 0, 3);
            g.fill(1, 2, 1, 0);
            is("all", g.smooth(0, 0, 1, 1, 8, 1), 2);
            dots(g, 0, 2, 1, 2);
            is("upon the guide", g.smooth(1, 0, 1, 1, 8, 0), 0);
            dots(g, 1, 2, 1, 2);
        });
        says("NONE: 1 (to, PICTURES); 2 (s, r, n); 5 (not as WIDE, HIGH).", () -> {
            needsPlace((g, to) -> g.smooth(to, 0, 4, 1, 8, 1));
            needsPicture((g, p) -> g.smooth(5, p, p, 1, 8, 1));
            refuses(1, g -> g.smooth(0, NO_PICTURE, 0, 1, 8, 1));
            refuses(1, g -> g.smooth(0, 0, NO_PICTURE, 1, 8, 1));
            refuses(1, g -> g.smooth(6, 0, 1, 0, 7, 4));
            refuses(1, g -> g.smooth(0, 6, 1, 0, 7, 4));
            refuses(1, g -> g.smooth(0, 0, -1, 0, 7, 4));
            bounds(1, 8, 2, (g, s) -> g.smooth(5, 0, 4, s, 8, 0));
            bounds(8, 128, 2, (g, r) -> g.smooth(5, 0, 4, 1, r, 0));
            bounds(0, 3, 2, (g, n) -> g.smooth(5, 2, 2, 8, 128, n));
            refuses(2, g -> g.smooth(5, 0, 1, 9, 8, 0));
            refuses(2, g -> g.smooth(5, 0, 1, 1, 129, 0));
            refuses(2, g -> g.smooth(5, 0, 1, 1, 8, 4));
            refuses(5, g -> g.smooth(5, 0, 1, 1, 8, 0));
            refuses(5, SmoothingBoundaries::unlike, g -> g.smooth(1, 0, 3, 1, 8, 0));
            refuses(5, SmoothingBoundaries::unlike, g -> g.smooth(1, 5, 0, 1, 8, 0));
        });
    }

    private static void box() {
        of(23);
        says("ACT: BOX of a PICTURE: how many dots are others than its.", () -> {
            is("none by 0", full().box(5, 0, 0), 0);
            is("none of one dot", full().box(5, 3, 4), 0);
            is("all", painted(2, 0, 255).box(0, 0, 4), 2);
            is("one", painted(2, 0, 1).box(0, 0, 4), 1);
            ShadeGrid g = full();
            g.box(0, 0, 0);
            is("an act, though nothing is changed", g.undo(), 4);
        });
        says("NONE: 1 (to, PICTURE); 2.", () -> {
            needsPlace((g, to) -> g.box(to, 0, 1));
            needsPicture((g, p) -> g.box(5, p, 1));
            bounds(0, 4, 2, (g, n) -> g.box(5, 0, n));
            refuses(1, g -> g.box(6, 0, 5));
            refuses(1, g -> g.box(0, NO_PICTURE, -1));
        });
    }

    private static void median() {
        of(24);
        says("ACT: MEDIAN of a PICTURE: each dot is the middle one, by size, of the dots that BOX of n (0 .. 4) "
                + "takes", () -> {
            bounds(0, 4, 2, (g, n) -> g.median(5, 2, n));
            dots(medianed(painted(1, 255), 4), 1, 1, 255);
            dots(medianed(painted(3, 255, 0, 7), 4), 1, 3, 7, 7, 7);
            dots(medianed(painted(3, 255, 0, 7), 0), 1, 3, 255, 0, 7);
            dots(medianed(painted(3, 9, 8, 7, 6, 5, 4, 3, 2, 1), 4), 1, 3, 5, 5, 5, 5, 5, 5, 5, 5, 5);
            ShadeGrid g = filled(16, 12);
            g.fill(0, 16, 12, 255);
            g.median(0, 0, 4);
            is("as many dots as can be", g.often(0, 255), 192);
        });
        says("(of an even number the lower of both)", () -> {
            dots(medianed(painted(2, 255, 0), 1), 1, 2, 0, 0);
            dots(medianed(painted(2, 1, 2), 4), 1, 2, 1, 1);
            dots(medianed(painted(4, 9, 3, 5, 7), 4), 1, 4, 5, 5, 5, 5);
        });
        says("how many dots are others than its.", () -> {
            is("none by 0", full().median(5, 0, 0), 0);
            is("none of one dot", full().median(5, 3, 4), 0);
            is("all but one", painted(3, 255, 0, 7).median(0, 0, 4), 2);
            ShadeGrid g = full();
            g.median(0, 0, 0);
            is("an act, though nothing is changed", g.undo(), 4);
        });
        says("NONE: 1 (to, PICTURE); 2.", () -> {
            needsPlace((g, to) -> g.median(to, 0, 1));
            needsPicture((g, p) -> g.median(5, p, 1));
            refuses(1, g -> g.median(6, 0, 5));
            refuses(1, g -> g.median(0, NO_PICTURE, -1));
        });
    }

    private static ShadeGrid medianed(ShadeGrid g, int n) {
        g.median(1, 0, n);
        return g;
    }

    private static void mix() {
        of(25);
        says("ACT: MIX of two PICTURES: each dot is part (0 .. 100) times the one's and 100 less part times the "
                + "other's, together, by 100", () -> {
            bounds(0, 100, 2, (g, part) -> yes(g.mix(5, 0, 4, part)));
            dots(mixed(255, 0, 0), 2, 1, 0);
            dots(mixed(255, 0, 100), 2, 1, 255);
            dots(mixed(0, 255, 100), 2, 1, 0);
            dots(mixed(255, 255, 37), 2, 1, 255);
            ShadeGrid g = full();
            g.mix(2, 2, 2, 50);
            is("as many dots as can be, of itself", g.about(2, 4), 191 * 7 + 200);
            is("an act, though nothing is changed", g.undo(), 4);
        });
        says("to the nearest, of two as near the lower", () -> {
            dots(mixed(1, 0, 49), 2, 1, 0);
            dots(mixed(1, 0, 50), 2, 1, 0);
            dots(mixed(1, 0, 51), 2, 1, 1);
            dots(mixed(254, 255, 50), 2, 1, 254);
        });
        says("true", () -> is("upon one of them", full().mix(4, 0, 4, 50), true));
        says("false: 1 (to, PICTURES); 2; 5 (not as WIDE, HIGH).", () -> {
            needsPlace((g, to) -> yes(g.mix(to, 0, 4, 1)));
            needsPicture((g, p) -> yes(g.mix(5, p, p, 1)));
            refuses(1, g -> yes(g.mix(0, NO_PICTURE, 0, 1)));
            refuses(1, g -> yes(g.mix(0, 0, NO_PICTURE, 1)));
            refuses(1, g -> yes(g.mix(6, 0, 1, 101)));
            refuses(1, g -> yes(g.mix(0, -1, 1, 101)));
            refuses(2, g -> yes(g.mix(5, 0, 1, -1)));
            refuses(5, g -> yes(g.mix(5, 0, 1, 0)));
            refuses(5, SmoothingBoundaries::unlike, g -> yes(g.mix(1, 0, 3, 100)));
            refuses(5, SmoothingBoundaries::unlike, g -> yes(g.mix(1, 5, 0, 100)));
        });
    }

    private static ShadeGrid mixed(int one, int other, int part) {
        ShadeGrid g = painted(1, one);
        g.fill(1, 1, 1, other);
        g.mix(2, 0, 1, part);
        return g;
    }

    private static void above() {
        of(26);
        says("ACT: a PICTURE of what one has above another one: 128 and its SHADE less the other's, held within "
                + "0 .. 255", () -> {
            int[][] due = {{127, 0, 255}, {128, 0, 255}, {255, 0, 255}, {126, 0, 254},
                {0, 127, 1}, {0, 128, 0}, {0, 129, 0}, {0, 255, 0}, {255, 255, 128}, {0, 0, 128}};
            for (int[] d : due) {
                ShadeGrid g = painted(1, d[0]);
                g.fill(1, 1, 1, d[1]);
                g.above(2, 0, 1);
                dots(g, 2, 1, d[2]);
            }
            ShadeGrid g = full();
            g.above(0, 0, 0);
            is("upon itself", g.often(0, 128), 6);
            is("an act", g.undo(), 4);
        });
        says("how many dots are held.", () -> {
            ShadeGrid g = painted(4, 127, 128, 0, 0);
            paint(g, 1, 4, 0, 0, 128, 129);
            is("those beyond, not those at an end", g.above(2, 0, 1), 2);
            is("none", full().above(5, 2, 2), 0);
            g.fill(0, 16, 12, 255);
            g.fill(1, 16, 12, 0);
            is("all", g.above(2, 0, 1), 192);
            is("all", g.above(2, 1, 0), 192);
        });
        says("NONE: 1 (to, PICTURES); 5 (not as WIDE, HIGH).", () -> {
            needsPlace((g, to) -> g.above(to, 0, 4));
            needsPicture((g, p) -> g.above(5, p, p));
            refuses(1, g -> g.above(0, NO_PICTURE, 0));
            refuses(1, g -> g.above(0, 0, NO_PICTURE));
            refuses(1, g -> g.above(6, 0, 1));
            refuses(5, g -> g.above(5, 0, 1));
            refuses(5, SmoothingBoundaries::unlike, g -> g.above(1, 0, 3));
            refuses(5, SmoothingBoundaries::unlike, g -> g.above(1, 5, 0));
        });
    }

    private static void levels() {
        of(27);
        says("ACT: a PICTURE in so many LEVELS (2 .. 64)", () -> {
            bounds(2, 64, 2, (g, many) -> g.levels(5, 0, many));
            ShadeGrid g = full();
            g.levels(2, 2, 2);
            is("as many dots as can be", g.about(2, 4), 255);
            is("an act", g.undo(), 4);
        });
        says("a SHADE v is in LEVEL v times many by 256, downwards, and becomes 255 times that by many less 1, "
                + "downwards", () -> {
            dots(leveled(2, 0, 127, 128, 255), 1, 4, 0, 0, 255, 255);
            dots(leveled(3, 85, 86, 170, 171), 1, 4, 0, 127, 127, 255);
            dots(leveled(64, 0, 3, 4, 251, 252, 255), 1, 6, 0, 0, 4, 250, 255, 255);
        });
        says("how many dots are others.", () -> {
            is("none", painted(2, 0, 255).levels(0, 0, 64), 0);
            is("all", painted(2, 1, 254).levels(0, 0, 2), 2);
        });
        says("NONE: 1 (to, PICTURE); 2.", () -> {
            needsPlace((g, to) -> g.levels(to, 0, 2));
            needsPicture((g, p) -> g.levels(5, p, 2));
            refuses(1, g -> g.levels(6, 0, 1));
            refuses(1, g -> g.levels(0, NO_PICTURE, 65));
        });
    }

    private static ShadeGrid leveled(int many, int... shades) {
        ShadeGrid g = painted(shades.length, shades);
        g.levels(1, 0, many);
        return g;
    }

    private static void stretch() {
        of(28);
        says("ACT: a PICTURE STRETCHED: a SHADE v becomes 255 times (v less the least) by (the greatest less the "
                + "least), downwards", () -> {
            ShadeGrid g = painted(3, 254, 255, 254);
            g.stretch(0, 0);
            dots(g, 0, 3, 0, 255, 0);
            g = painted(3, 0, 1, 2);
            g.stretch(0, 0);
            dots(g, 0, 3, 0, 127, 255);
            g = full();
            g.stretch(2, 2);
            is("as many dots as can be", g.about(2, 4), 255);
            is("an act", g.undo(), 4);
        });
        says("how many dots are others.", () -> {
            is("none", painted(3, 0, 7, 255).stretch(0, 0), 0);
            is("all", painted(2, 1, 254).stretch(0, 0), 2);
        });
        says("NONE: 1 (to, PICTURE); 5 (it has one SHADE alone).", () -> {
            needsPlace((g, to) -> g.stretch(to, 0));
            Supplier<ShadeGrid> uneven = () -> {
                ShadeGrid g = full();
                g.fill(3, 2, 1, 9);
                g.set(3, 1, 0, 10);
                return g;
            };
            bounds(0, 4, 1, uneven, (g, p) -> g.stretch(5, p));
            refuses(1, g -> g.stretch(0, NO_PICTURE));
            refuses(1, g -> g.stretch(6, 3));
            refuses(5, g -> g.stretch(0, 3));
            refuses(5, () -> filled(16, 12), g -> g.stretch(0, 0));
        });
    }

    private static void larger() {
        of(29);
        says("ACT: a PICTURE LARGER by 2 .. 4: each dot becomes by times by dots", () -> {
            bounds(2, 4, 2, (g, by) -> yes(g.larger(5, 3, by)));
            for (int by = 2; by <= 4; by++) {
                ShadeGrid g = painted(2, 1, 2, 3, 4);
                g.larger(0, 0, by);
                is("wide", g.about(0, 0), 2 * by);
                is("high", g.about(0, 1), 2 * by);
                for (int d = 0; d < 4 * by * by; d++) {
                    int x = d % (2 * by);
                    int y = d / (2 * by);
                    is("a dot", g.dot(0, x, y), 1 + x / by + 2 * (y / by));
                }
            }
            ShadeGrid g = full();
            g.larger(0, 0, 2);
            is("an act", g.undo(), 4);
            is("undone", g.about(0, 0), 3);
        });
        says("true", () -> is("of one dot", full().larger(5, 3, 4), true));
        says("false: 1 (to, PICTURE); 2", () -> {
            needsPlace((g, to) -> yes(g.larger(to, 0, 2)));
            bounds(0, 4, 1, () -> {
                ShadeGrid g = full();
                g.fill(2, 1, 1, 0);
                return g;
            }, (g, p) -> yes(g.larger(5, p, 2)));
            refuses(1, g -> yes(g.larger(0, NO_PICTURE, 2)));
            refuses(1, g -> yes(g.larger(6, 2, 5)));
            refuses(2, g -> yes(g.larger(0, 2, 5)));
            refuses(2, g -> yes(g.larger(0, 2, LEAST)));
        });
        says("3 (it would be more WIDE, HIGH than can be).", () -> {
            int[][] most = {{2, 8, 6}, {3, 5, 4}, {4, 4, 3}};
            for (int[] m : most) {
                is("the largest by " + m[0], filled(m[1], m[2]).larger(1, 0, m[0]), true);
                refuses(3, () -> filled(m[1] + 1, m[2]), g -> yes(g.larger(1, 0, m[0])));
                refuses(3, () -> filled(m[1], m[2] + 1), g -> yes(g.larger(1, 0, m[0])));
            }
            refuses(3, () -> filled(16, 12), g -> yes(g.larger(0, 0, 4)));
        });
    }

    private static void smaller() {
        of(30);
        says("ACT: a PICTURE SMALLER by 2 .. 4: from the left and the top on by times by dots become one", () -> {
            bounds(2, 4, 2, (g, by) -> yes(g.smaller(5, 2, by)));
            for (int by = 2; by <= 4; by++) {
                ShadeGrid g = painted(2, 10, 20, 30, 40);
                g.larger(0, 0, by);
                g.smaller(0, 0, by);
                dots(g, 0, 2, 10, 20, 30, 40);
            }
            ShadeGrid g = full();
            g.smaller(2, 2, 4);
            is("wide", g.about(2, 0), 4);
            is("high", g.about(2, 1), 3);
            is("an act", g.undo(), 4);
            is("undone", g.about(2, 0), 16);
        });
        says("their SHADES together by how many they are, to the nearest, of two as near the lower", () -> {
            dots(smalled(2, 0, 0, 0, 1), 0, 1, 0);
            dots(smalled(2, 0, 0, 1, 1), 0, 1, 0);
            dots(smalled(2, 0, 1, 1, 1), 0, 1, 1);
            dots(smalled(2, 255, 255, 254, 254), 0, 1, 254);
            dots(smalled(2, 255, 255, 255, 255), 0, 1, 255);
        });
        says("what is over at the right, below, is left out", () -> {
            dots(smalled(3, 8, 8, 255, 8, 8, 255, 255, 255, 255), 0, 1, 8);
            ShadeGrid g = filled(16, 12);
            g.fill(0, 7, 7, 9);
            g.smaller(1, 0, 4);
            dots(g, 1, 1, 9);
            g.fill(0, 11, 8, 9);
            g.smaller(1, 0, 4);
            dots(g, 1, 2, 9, 9, 9, 9);
        });
        says("true", () -> is("to one dot", filled(4, 4).smaller(0, 0, 4), true));
        says("false: 1 (to, PICTURE); 2", () -> {
            needsPlace((g, to) -> yes(g.smaller(to, 0, 2)));
            bounds(0, 4, 1, () -> {
                ShadeGrid g = full();
                g.fill(3, 2, 2, 0);
                return g;
            }, (g, p) -> yes(g.smaller(5, p, 2)));
            refuses(1, g -> yes(g.smaller(0, NO_PICTURE, 2)));
            refuses(1, g -> yes(g.smaller(6, 3, 5)));
            refuses(2, g -> yes(g.smaller(0, 3, 1)));
            refuses(2, g -> yes(g.smaller(0, 3, 0)));
        });
        says("5 (nothing would be left).", () -> {
            for (int by = 2; by <= 4; by++) {
                int most = by;
                is("as wide and high as that", filled(by, by).smaller(1, 0, by), true);
                refuses(5, () -> filled(most - 1, 12), g -> yes(g.smaller(1, 0, most)));
                refuses(5, () -> filled(16, most - 1), g -> yes(g.smaller(1, 0, most)));
            }
            refuses(5, g -> yes(g.smaller(3, 3, 2)));
        });
    }

    private static ShadeGrid smalled(int wide, int... shades) {
        ShadeGrid g = painted(wide, shades);
        g.smaller(0, 0, 2);
        return g;
    }

    /** One row of shades that rise by the same step. */
    private static ShadeGrid rising(int wide, int step) {
        int[] shades = new int[wide];
        for (int x = 0; x < wide; x++) {
            shades[x] = x * step;
        }
        return painted(wide, shades);
    }

    /** How often smooth() itself makes another picture of it. */
    private static int changes(ShadeGrid g, int s, int r, int n) {
        int many = 0;
        for (int time = 0; time < 30 && g.smooth(0, 0, 0, s, r, n) > 0; time++) {
            many++;
        }
        return many;
    }

    private static void rests() {
        of(31);
        says("How often a PICTURE, SMOOTH by itself, then what comes of it by itself, and so on, is another one than "
                + "ahead of that, till it is the same (0 .. 19)", () -> {
            is("one dot", painted(1, 200).rests(0, 8, 128, 3), 0);
            is("one shade", filled(16, 12).rests(0, 8, 128, 3), 0);
            is("once", painted(2, 0, 3).rests(0, 1, 128, 1), 1);
            is("19 times", rising(16, 17).rests(0, 6, 104, 0), 19);
            is("19 times", changes(rising(16, 17), 6, 104, 0), 19);
            ShadeGrid g = rising(16, 17);
            g.rests(0, 6, 104, 0);
            is("nothing is changed", g.dot(0, 15, 0), 255);
            is("no grid", g.gridded(0), NONE);
            is("no act", g.undo(), 9);
            is("an act was the last dot's", g.dot(0, 15, 0), 0);
        });
        says("-2: it still is another one at the 20th time.", () -> {
            ShadeGrid g = rising(8, 8);
            is("20 times", g.rests(0, 1, 64, 3), -2);
            is("trouble()", g.trouble(), 0);
            is("20 times", changes(g, 1, 64, 3), 20);
            g = rising(16, 17);
            is("more often", g.rests(0, 6, 96, 0), -2);
            is("more often", changes(g, 6, 96, 0) > 20, true);
        });
        says("NONE: 1; 2 (s, r, n).", () -> {
            needsPicture((g, p) -> g.rests(p, 1, 8, 1));
            bounds(1, 8, 2, (g, s) -> g.rests(0, s, 8, 1));
            bounds(8, 128, 2, (g, r) -> g.rests(0, 1, r, 1));
            bounds(0, 3, 2, (g, n) -> g.rests(0, 1, 8, n));
            refuses(1, g -> g.rests(NO_PICTURE, 0, 8, 1));
            refuses(1, g -> g.rests(6, 1, 129, 4));
        });
    }

    private static void edges() {
        of(32);
        says("How many NEIGHBOURS have a STEP of t (0 .. 255) or more.", () -> {
            ShadeGrid g = painted(3, 1, 2, 5, 1, 9, 5);
            int[][] due = {{0, 7}, {1, 5}, {2, 4}, {3, 4}, {4, 3}, {7, 2}, {8, 1}, {9, 0}, {255, 0}};
            for (int[] d : due) {
                is("t " + d[0], g.edges(0, d[0]), d[1]);
            }
            is("one dot", full().edges(3, 0), 0);
            is("as many as can be", full().edges(2, 0), 356);
            is("the greatest", painted(2, 0, 255).edges(0, 255), 1);
            is("the greatest, downwards", painted(1, 255, 0).edges(0, 255), 1);
            is("one less", painted(2, 0, 254).edges(0, 255), 0);
        });
        says("NONE: 1; 2.", () -> {
            needsPicture((g, p) -> g.edges(p, 0));
            bounds(0, 255, 2, (g, t) -> g.edges(0, t));
            refuses(1, g -> g.edges(NO_PICTURE, -1));
        });
    }

    private static void kept() {
        of(33);
        says("How many of these would have it still, were a PICTURE SMOOTH by a GUIDE.", () -> {
            // 0, 100, 100 by a guide of one shade become 33, 75, 100
            ShadeGrid g = painted(3, 0, 100, 100);
            g.fill(1, 3, 1, 0);
            int[][] due = {{0, 2}, {1, 1}, {25, 1}, {42, 1}, {43, 0}, {255, 0}};
            for (int[] d : due) {
                is("t " + d[0], g.kept(0, 1, 1, 8, 1, d[0]), d[1]);
            }
            paint(g, 0, 1, 0, 100, 100);
            g.fill(1, 1, 3, 0);
            for (int[] d : due) {
                is("upright, t " + d[0], g.kept(0, 1, 1, 8, 1, d[0]), d[1]);
            }
            is("t 255", painted(2, 0, 255).kept(0, 0, 1, 8, 3, 255), 1);
            is("one dot", full().kept(3, 3, 1, 8, 0, 0), 0);
            is("all", full().kept(2, 2, 8, 128, 3, 0), 356);
            g = full();
            g.kept(0, 4, 8, 128, 3, 1);
            is("nothing is changed", g.apart(0, 0, 1) == 0 && g.about(0, 4) == 255, true);
            is("no act", g.undo(), 3);
        });
        says("NONE: 1; 2 (s, r, n, t); 5 (not as WIDE, HIGH).", () -> {
            needsPicture((g, p) -> g.kept(p, p, 1, 8, 0, 0));
            refuses(1, g -> g.kept(NO_PICTURE, 0, 1, 8, 0, 0));
            refuses(1, g -> g.kept(0, NO_PICTURE, 0, 7, 4, 256));
            bounds(1, 8, 2, (g, s) -> g.kept(0, 4, s, 8, 0, 0));
            bounds(8, 128, 2, (g, r) -> g.kept(0, 4, 1, r, 0, 0));
            bounds(0, 3, 2, (g, n) -> g.kept(0, 4, 1, 8, n, 0));
            bounds(0, 255, 2, (g, t) -> g.kept(0, 4, 1, 8, 0, t));
            refuses(2, g -> g.kept(0, 1, 1, 8, 0, 256));
            refuses(2, g -> g.kept(0, 1, 1, 8, -1, 0));
            refuses(5, g -> g.kept(0, 1, 1, 8, 0, 0));
            refuses(5, SmoothingBoundaries::unlike, g -> g.kept(0, 3, 1, 8, 0, 0));
            refuses(5, SmoothingBoundaries::unlike, g -> g.kept(5, 0, 1, 8, 0, 0));
        });
    }

    private static void flat() {
        of(34);
        says("The least n (0 .. 3) by which a PICTURE, SMOOTH by itself, would have no NEIGHBOURS with a STEP of t "
                + "(1 .. 255) or more", () -> {
            // 16, 10, 6, 4 apart by 0 .. 3
            ShadeGrid g = painted(2, 0, 16);
            int[][] due = {{255, 0}, {17, 0}, {16, 1}, {11, 1}, {10, 2}, {7, 2}, {6, 3}, {5, 3}};
            for (int[] d : due) {
                is("t " + d[0], g.flat(0, 1, 16, d[0]), d[1]);
            }
            is("one dot", full().flat(3, 1, 8, 1), 0);
            is("one shade", filled(16, 12).flat(0, 1, 8, 1), 0);
            bounds(1, 255, 2, (o, t) -> o.flat(0, 1, 8, t));
            g = full();
            g.flat(0, 8, 128, 1);
            is("nothing is changed", g.about(0, 4), 255);
            is("no act", g.undo(), 3);
        });
        says("-2: by none.", () -> {
            ShadeGrid g = painted(2, 0, 16);
            is("t 4", g.flat(0, 1, 16, 4), -2);
            is("trouble()", g.trouble(), 0);
            is("t 1", g.flat(0, 1, 16, 1), -2);
            is("t 255", painted(1, 0, 255).flat(0, 8, 8, 255), -2);
        });
        says("NONE: 1; 2 (s, r, t).", () -> {
            needsPicture((g, p) -> g.flat(p, 1, 8, 1));
            bounds(1, 8, 2, (g, s) -> g.flat(0, s, 8, 1));
            bounds(8, 128, 2, (g, r) -> g.flat(0, 1, r, 1));
            bounds(1, 255, 2, (g, t) -> g.flat(2, 8, 128, t));
            refuses(1, g -> g.flat(NO_PICTURE, 0, 7, 0));
            refuses(1, g -> g.flat(6, 9, 129, 256));
        });
    }
}
