/** The boundary cases of promises 35 to 44, and of "Terms" II on NEIGHBOURS. */
final class AlikeBoundaries extends Boundaries {
    private AlikeBoundaries() {
    }

    static void all() {
        neighbours();
        apart();
        regions();
        region();
        regionAt();
        steep();
        ranked();
        line();
        pairs();
        pair();
        undo();
    }

    /** As large as can be, 0 and 255 by turns along x and y. */
    private static ShadeGrid chess() {
        int[] shades = new int[192];
        for (int d = 0; d < 192; d++) {
            shades[d] = (d % 16 + d / 16) % 2 == 0 ? 0 : 255;
        }
        return painted(16, shades);
    }

    private static void neighbours() {
        of(Document.TERMS);
        says("NEIGHBOURS: two dots side by side, or one above the other.", () -> {
            is("one dot has none", painted(1, 5).edges(0, 0), 0);
            is("side by side", painted(2, 5, 5).edges(0, 0), 1);
            is("one above the other", painted(1, 5, 5).edges(0, 0), 1);
            is("not across a corner", painted(2, 5, 5, 5, 5).edges(0, 0), 4);
            is("not from a row's end to the next one's start", painted(3, 0, 0, 9, 9, 0, 0).edges(0, 9), 4);
            is("not from a row's end to the next one's start", painted(3, 0, 0, 9, 9, 0, 0).regions(0, 0), 3);
            is("as many as can be", full().edges(2, 0), 15 * 12 + 16 * 11);
        });
        says("Their STEP: how far their SHADES are apart.", () -> {
            is("0", painted(2, 255, 255).steep(0, 0), 0);
            is("upwards", painted(2, 0, 255).steep(0, 0), 255);
            is("downwards", painted(2, 255, 0).steep(0, 0), 255);
        });
    }

    private static ShadeGrid two(int wide, int high, int one, int other) {
        ShadeGrid g = new ShadeGrid();
        g.fill(0, wide, high, one);
        g.fill(1, wide, high, other);
        return g;
    }

    private static void apart() {
        of(35);
        says("Of two PICTURES 0 how many dots are unlike", () -> {
            is("none", full().apart(2, 2, 0), 0);
            is("by 1", two(1, 1, 7, 8).apart(0, 1, 0), 1);
            is("all", two(16, 12, 7, 8).apart(0, 1, 0), 192);
        });
        says("1 how far they are apart, all together", () -> {
            is("none", full().apart(2, 2, 1), 0);
            is("the most", two(16, 12, 0, 255).apart(0, 1, 1), 48960);
            is("the most", two(16, 12, 255, 0).apart(0, 1, 1), 48960);
            ShadeGrid g = painted(2, 0, 9);
            paint(g, 1, 2, 9, 0);
            is("both ways", g.apart(0, 1, 1), 18);
        });
        says("2 the greatest.", () -> {
            is("none", full().apart(2, 2, 2), 0);
            is("the most", two(16, 12, 0, 255).apart(0, 1, 2), 255);
            is("the most", two(16, 12, 255, 0).apart(0, 1, 2), 255);
            ShadeGrid g = two(16, 12, 9, 9);
            g.set(1, 15, 11, 2);
            is("the last dot", g.apart(0, 1, 2), 7);
            g.set(1, 0, 0, 17);
            is("the first dot", g.apart(0, 1, 2), 8);
        });
        says("NONE: 1 (what, too); 5 (not as WIDE, HIGH).", () -> {
            needsPicture((g, p) -> g.apart(p, p, 0));
            refuses(1, g -> g.apart(NO_PICTURE, 0, 0));
            refuses(1, g -> g.apart(0, NO_PICTURE, 0));
            bounds(0, 2, 1, (g, what) -> g.apart(0, 4, what));
            refuses(1, g -> g.apart(0, 1, 3));
            refuses(5, g -> g.apart(0, 1, 2));
            refuses(5, () -> {
                ShadeGrid g = full();
                g.fill(5, 3, 3, 0);
                return g;
            }, g -> g.apart(0, 5, 0));
            refuses(5, () -> {
                ShadeGrid g = full();
                g.fill(5, 4, 2, 0);
                return g;
            }, g -> g.apart(5, 0, 0));
        });
    }

    private static void regions() {
        of(36);
        says("REGIONS: dots are in one REGION, if NEIGHBOURS with STEPS of t (0 .. 255) at most lead from one to the "
                + "other", () -> {
            ShadeGrid g = painted(3, 10, 12, 15);
            int[][] due = {{0, 3}, {1, 3}, {2, 2}, {3, 1}, {255, 1}};
            for (int[] d : due) {
                is("t " + d[0], g.regions(0, d[0]), d[1]);
            }
            is("like ones", painted(1, 7, 7).regions(0, 0), 1);
            is("by way of another one", painted(3, 0, 9, 18).regions(0, 9), 1);
            is("not across a corner", painted(2, 0, 9, 9, 0).regions(0, 8), 4);
            // a way that turns to all four sides
            g = painted(5,
                    1, 1, 1, 9, 1,
                    9, 9, 1, 9, 1,
                    1, 1, 1, 9, 1,
                    1, 9, 9, 9, 1,
                    1, 1, 1, 1, 1);
            is("a way to the last dot", g.regionAt(0, 0, 4, 0), 0);
            is("beside it", g.regions(0, 0), 3);
        });
        says("numbered from 0 by their first dots (row by row from the top, from the left)", () -> {
            ShadeGrid g = painted(3, 5, 6, 7, 6, 6, 5);
            int[] due = {0, 1, 2, 1, 1, 3};
            for (int d = 0; d < 6; d++) {
                is("dot " + d, g.regionAt(0, 0, d % 3, d / 3), due[d]);
            }
            g = chess();
            for (int d = 0; d < 192; d += 191) {
                is("the first and the last", g.regionAt(0, 254, d % 16, d / 16), d);
            }
        });
        says("how many.", () -> {
            is("one dot", full().regions(3, 0), 1);
            is("the most", chess().regions(0, 254), 192);
            is("one of all dots", chess().regions(0, 255), 1);
            is("one of all dots", two(16, 12, 3, 3).regions(0, 0), 1);
        });
        says("NONE: 1; 2.", () -> {
            needsPicture((g, p) -> g.regions(p, 0));
            bounds(0, 255, 2, (g, t) -> g.regions(0, t));
            refuses(1, g -> g.regions(NO_PICTURE, 256));
        });
    }

    private static void region() {
        of(37);
        says("Of a REGION 0 x, 1 y of its first dot", () -> {
            ShadeGrid g = painted(3, 9, 9, 1, 9, 1, 1);
            is("x", g.region(0, 0, 0, 0), 0);
            is("x", g.region(0, 0, 1, 0), 2);
            is("y", g.region(0, 0, 1, 1), 0);
            g = chess();
            is("the last x", g.region(0, 0, 191, 0), 15);
            is("the last y", g.region(0, 0, 191, 1), 11);
            g = painted(1, 1, 2, 3);
            is("one column, x", g.region(0, 0, 1, 0), 0);
            is("one column, y", g.region(0, 0, 1, 1), 1);
            g = painted(3, 1, 2, 3);
            is("one row, x", g.region(0, 0, 2, 0), 2);
            is("one row, y", g.region(0, 0, 2, 1), 0);
        });
        says("2 how many dots", () -> {
            is("one", full().region(3, 0, 0, 2), 1);
            is("the most", chess().region(0, 255, 0, 2), 192);
        });
        says("3 the least, 4 the greatest SHADE.", () -> {
            ShadeGrid g = chess();
            is("the least", g.region(0, 255, 0, 3), 0);
            is("the greatest", g.region(0, 255, 0, 4), 255);
            is("of one dot", g.region(0, 254, 1, 3), 255);
            is("of one dot", g.region(0, 254, 0, 4), 0);
        });
        says("NONE: 1 (PICTURE, what); 2; 1 (no such REGION).", () -> {
            needsPicture((g, p) -> g.region(p, 0, 0, 0));
            bounds(0, 4, 1, (g, what) -> g.region(0, 0, 0, what));
            bounds(0, 255, 2, (g, t) -> g.region(0, t, 0, 0));
            bounds(0, 5, 1, (g, i) -> g.region(0, 16, i, 0));
            bounds(0, 1, 1, (g, i) -> g.region(0, 17, i, 0));
            bounds(0, 0, 1, (g, i) -> g.region(0, 51, i, 0));
            bounds(0, 1, 1, (g, i) -> g.region(2, 192, i, 4));
            refuses(2, g -> g.region(0, 256, 99, 0));
            refuses(2, g -> g.region(0, -1, -1, 4));
            refuses(1, g -> g.region(0, 256, 0, 5));
            refuses(1, g -> g.region(NO_PICTURE, 256, 0, 0));
        });
    }

    private static void regionAt() {
        of(38);
        says("The REGION of a dot.", () -> {
            is("the first", chess().regionAt(0, 0, 0, 0), 0);
            is("the last", chess().regionAt(0, 0, 15, 11), 191);
            is("the last, of one", chess().regionAt(0, 255, 15, 11), 0);
            is("one dot", full().regionAt(3, 0, 0, 0), 0);
        });
        says("NONE: 1; 2.", () -> {
            needsPicture((g, p) -> g.regionAt(p, 0, 0, 0));
            bounds(0, 2, 1, (g, x) -> g.regionAt(0, 0, x, 1));
            bounds(0, 1, 1, (g, y) -> g.regionAt(0, 0, 2, y));
            bounds(0, 255, 2, (g, t) -> g.regionAt(0, t, 2, 1));
            refuses(1, g -> g.regionAt(NO_PICTURE, 256, 0, 0));
            refuses(1, g -> g.regionAt(0, 256, 3, 0));
            refuses(1, g -> g.regionAt(0, -1, 0, 2));
        });
    }

    private static void steep() {
        of(39);
        says("STEPS of all NEIGHBOURS together (what 0), of those side by side (1), one above the other (2).", () -> {
            ShadeGrid g = chess();
            is("the most", g.steep(0, 0), 356 * 255);
            is("the most side by side", g.steep(0, 1), 180 * 255);
            is("the most one above the other", g.steep(0, 2), 176 * 255);
            for (int what = 0; what < 3; what++) {
                is("no neighbours", full().steep(3, what), 0);
                is("trouble()", g.trouble(), 0);
            }
            is("one row", painted(2, 0, 9).steep(0, 2), 0);
            is("one column", painted(1, 0, 9).steep(0, 1), 0);
        });
        says("NONE: 1 (what, too).", () -> {
            needsPicture((g, p) -> g.steep(p, 0));
            bounds(0, 2, 1, (g, what) -> g.steep(0, what));
        });
    }

    private static void ranked() {
        of(40);
        says("The i-th of all SHADES of its dots by size, the least first (0: the least).", () -> {
            ShadeGrid g = full();
            is("the least", g.ranked(2, 0), 7);
            is("the last but one", g.ranked(2, 190), 7);
            is("the greatest", g.ranked(2, 191), 200);
            is("255", g.ranked(1, 11), 255);
            is("0", g.ranked(0, 0), 0);
            is("one dot", g.ranked(3, 0), 9);
        });
        says("NONE: 1 (PICTURE, i).", () -> {
            needsPicture((g, p) -> g.ranked(p, 0));
            bounds(0, 191, 1, (g, i) -> g.ranked(2, i));
            bounds(0, 5, 1, (g, i) -> g.ranked(0, i));
            bounds(0, 0, 1, (g, i) -> g.ranked(3, i));
        });
    }

    private static void line() {
        of(41);
        says("All SHADES of a row (kind 0, from the top), a column (1) together.", () -> {
            ShadeGrid g = full();
            is("the first row", g.line(2, 0, 0), 16 * 7);
            is("the last row", g.line(2, 0, 11), 15 * 7 + 200);
            is("the first column", g.line(2, 1, 0), 12 * 7);
            is("the last column", g.line(2, 1, 15), 11 * 7 + 200);
            is("the upper row", g.line(0, 0, 0), 51);
            is("one dot", g.line(3, 0, 0), 9);
            is("one dot", g.line(3, 1, 0), 9);
            g.fill(2, 16, 12, 255);
            is("the most", g.line(2, 0, 5), 4080);
        });
        says("NONE: 1 (kind, too).", () -> {
            needsPicture((g, p) -> g.line(p, 0, 0));
            needsPicture((g, p) -> g.line(p, 1, 0));
            bounds(0, 1, 1, (g, kind) -> g.line(0, kind, 0));
            bounds(0, 11, 1, (g, at) -> g.line(2, 0, at));
            bounds(0, 15, 1, (g, at) -> g.line(2, 1, at));
            bounds(0, 1, 1, (g, at) -> g.line(0, 0, at));
            bounds(0, 2, 1, (g, at) -> g.line(0, 1, at));
        });
    }

    private static void pairs() {
        of(42);
        says("PAIRS: SHADES of NEIGHBOURS, the lesser first: how many unlike PAIRS there are.", () -> {
            is("no neighbours", full().pairs(3), 0);
            is("one", painted(2, 5, 5).pairs(0), 1);
            is("one, both ways round", painted(3, 0, 255, 0).pairs(0), 1);
            is("the most", PictureBoundaries.unlikeDots().pairs(0), 356);
            is("one, as often as can be", chess().pairs(0), 1);
            ShadeGrid g = full();
            is("asked again", g.pairs(0), g.pairs(0));
            is("none behind some", g.pairs(3), 0);
            is("of like shades, too", painted(3, 0, 0, 255).pairs(0), 2);
            is("one above the other, too", painted(1, 1, 2, 3).pairs(0), 2);
        });
        says("NONE: 1.", () -> needsPicture((g, p) -> g.pairs(p)));
    }

    private static void isPair(ShadeGrid g, int first, int second, int often) {
        is("its first", g.pair(0, 0), first);
        is("its second", g.pair(0, 1), second);
        is("how often", g.pair(0, 2), often);
    }

    private static void pair() {
        of(43);
        says("The PAIR that comes most often, of like ones the lesser first SHADE, then the lesser second: 0 its "
                + "first, 1 its second, 2 how often", () -> {
            isPair(painted(2, 255, 0), 0, 255, 1);
            isPair(painted(2, 255, 255), 255, 255, 1);
            isPair(chess(), 0, 255, 356);
            isPair(two(16, 12, 255, 0), 255, 255, 356);
            // once each: the first alone counts, then the second
            isPair(painted(3, 2, 9, 1), 1, 9, 1);
            isPair(painted(3, 9, 1, 3), 1, 3, 1);
            isPair(painted(3, 3, 1, 9), 1, 3, 1);
            isPair(painted(4, 2, 2, 200, 1), 1, 200, 1);
            // the last one twice
            isPair(painted(4, 0, 254, 255, 254), 254, 255, 2);
            isPair(PictureBoundaries.unlikeDots(), 0, 1, 1);
        });
        says("-2: there are no NEIGHBOURS.", () -> {
            for (int what = 0; what < 3; what++) {
                ShadeGrid g = full();
                is("one dot", g.pair(3, what), -2);
                is("trouble()", g.trouble(), 0);
            }
            isPair(painted(1, 4, 4), 4, 4, 1);
        });
        says("NONE: 1 (what, too).", () -> {
            needsPicture((g, p) -> g.pair(p, 0));
            bounds(0, 2, 1, (g, what) -> g.pair(0, what));
            bounds(0, 2, 1, (g, what) -> g.pair(3, what));
        });
    }

    private static ShadeGrid acts(int many) {
        ShadeGrid g = new ShadeGrid();
        for (int n = 1; n <= many; n++) {
            g.fill(0, 1, 1, n);
        }
        return g;
    }

    private static void undo() {
        of(44);
        says("The latest ACT is undone: how many still can be.", () -> {
            ShadeGrid g = acts(1);
            is("the only one", g.undo(), 0);
            is("there was none", g.about(0, 0), NONE);
            g = acts(10);
            for (int left = 9; left >= 1; left--) {
                is("of 10", g.undo(), left);
                is("of 10", g.dot(0, 0, 0), left);
            }
            is("the last of 10", g.undo(), 0);
            is("there was none", g.about(0, 0), NONE);
            g = acts(11);
            for (int left = 9; left >= 0; left--) {
                is("of 11", g.undo(), left);
                is("of 11", g.dot(0, 0, 0), left + 1);
            }
            is("acts are counted anew", g.fill(0, 1, 1, 99) && g.undo() == 0, true);
            g = acts(12);
            g.undo();
            g.undo();
            g.fill(0, 1, 1, 77);
            is("two undone, one more", g.undo(), 8);
            is("two undone, one more", g.dot(0, 0, 0), 10);
        });
        says("NONE: 5.", () -> {
            refuses(5, ShadeGrid::new, ShadeGrid::undo);
            refuses(5, () -> told("pic a a"), ShadeGrid::undo);
            refuses(5, () -> {
                ShadeGrid g = acts(1);
                g.undo();
                return g;
            }, ShadeGrid::undo);
            refuses(5, () -> {
                ShadeGrid g = acts(11);
                for (int n = 0; n < 10; n++) {
                    g.undo();
                }
                return g;
            }, ShadeGrid::undo);
        });
    }
}
