import java.util.function.Supplier;

/** The boundary cases of promises 14 to 21, and of "Terms" II on THE GRID. */
final class GridBoundaries extends Boundaries {
    private GridBoundaries() {
    }

    static void all() {
        of(Document.TERMS);
        spreading();
        blurring();
        reading();
        grid();
        gridded();
        node();
        nth();
        total();
        blur();
        read();
        readShade();
    }

    /** A grid of one picture, by itself. */
    private static ShadeGrid gridOf(int s, int r, int wide, int high, int shade) {
        ShadeGrid g = new ShadeGrid();
        g.fill(0, wide, high, shade);
        g.grid(0, 0, s, r);
        return g;
    }

    private static ShadeGrid blurred(ShadeGrid g, int... ways) {
        for (int way : ways) {
            g.blur(way);
        }
        return g;
    }

    /** As large as can be; all is 0 but for one dot of 1, where the guide has this shade. */
    private static ShadeGrid oneDot(int x, int y, int shade, int s, int r) {
        ShadeGrid g = new ShadeGrid();
        g.fill(0, 16, 12, 0);
        g.set(0, x, y, 1);
        g.fill(1, 16, 12, 0);
        g.set(1, x, y, shade);
        g.grid(0, 1, s, r);
        return g;
    }

    private static ShadeGrid noGrid() {
        ShadeGrid g = painted(2, 1, 2);
        feedAll(g, "pic a a");
        return g;
    }

    private static void spreading() {
        says("II. THE GRID of a PICTURE by a GUIDE (a PICTURE as WIDE and HIGH, perhaps the same)", () -> {
            is("the same", full().grid(1, 1, 1, 8) > 0, true);
            is("another one", full().grid(0, 4, 1, 8) > 0, true);
            Supplier<ShadeGrid> unlike = () -> {
                ShadeGrid g = full();
                g.fill(3, 3, 1, 0);
                g.fill(5, 2, 3, 0);
                return g;
            };
            refuses(5, unlike, g -> g.grid(0, 3, 1, 8));
            refuses(5, unlike, g -> g.grid(3, 0, 1, 8));
            refuses(5, unlike, g -> g.grid(0, 5, 1, 8));
        });
        says("STEP s (1 .. 8), RANGE r (8 .. 128)", () -> {
            bounds(1, 8, 2, (g, s) -> g.grid(2, 2, s, 8));
            bounds(8, 128, 2, (g, r) -> g.grid(2, 2, 1, r));
        });
        says("NODES (i, j, k), without end to all sides, each with a WEIGHT and a SUM, 0 at first.", () -> {
            ShadeGrid g = gridOf(1, 8, 16, 12, 255);
            for (int far : new int[] {LEAST, LEAST + 1, -65, -64, -1, 64, 65, MOST - 1, MOST}) {
                for (int what = 0; what < 2; what++) {
                    is("i " + far, g.node(far, 0, 31, what), 0);
                    is("j " + far, g.node(0, far, 31, what), 0);
                    is("k " + far, g.node(0, 0, far, what), 0);
                    is("all " + far, g.node(far, far, far, what), 0);
                    is("trouble()", g.trouble(), 0);
                }
            }
        });
        says("A dot x, y with the GUIDE's SHADE g has PARTS: along x of NODES i: x by s, downwards: "
                + "s less the rest of x by s; one more: that rest", () -> {
            int[][] due = {{0, 0, 8, 0}, {7, 0, 1, 7}, {8, 1, 8, 0}, {15, 1, 1, 7}};
            for (int[] d : due) {
                ShadeGrid g = oneDot(d[0], 0, 0, 8, 8);
                is("the node ahead of it", g.node(d[1] - 1, 0, 0, 1), 0);
                is("x by s", g.node(d[1], 0, 0, 1), d[2] * 64);
                is("one more", g.node(d[1] + 1, 0, 0, 1), d[3] * 64);
                is("two more", g.node(d[1] + 2, 0, 0, 1), 0);
            }
            is("s 1", oneDot(15, 0, 0, 1, 8).node(15, 0, 0, 1), 8);
            is("s 1", oneDot(15, 0, 0, 1, 8).node(16, 0, 0, 1), 0);
        });
        says("along y of NODES j likewise", () -> {
            int[][] due = {{0, 0, 8, 0}, {7, 0, 1, 7}, {8, 1, 8, 0}, {11, 1, 5, 3}};
            for (int[] d : due) {
                ShadeGrid g = oneDot(0, d[0], 0, 8, 8);
                is("the node ahead of it", g.node(0, d[1] - 1, 0, 1), 0);
                is("y by s", g.node(0, d[1], 0, 1), d[2] * 64);
                is("one more", g.node(0, d[1] + 1, 0, 1), d[3] * 64);
                is("two more", g.node(0, d[1] + 2, 0, 1), 0);
            }
            is("s 1", oneDot(0, 11, 0, 1, 8).node(0, 11, 0, 1), 8);
            is("s 1", oneDot(0, 11, 0, 1, 8).node(0, 12, 0, 1), 0);
        });
        says("along the shade of NODES k: g by r, downwards: r less the rest of g by r; one more: that rest.", () -> {
            int[][] due = {
                {8, 0, 0, 8, 0}, {8, 7, 0, 1, 7}, {8, 8, 1, 8, 0}, {8, 255, 31, 1, 7},
                {85, 255, 3, 85, 0}, {127, 255, 2, 126, 1},
                {128, 127, 0, 1, 127}, {128, 128, 1, 128, 0}, {128, 255, 1, 1, 127},
            };
            for (int[] d : due) {
                ShadeGrid g = oneDot(0, 0, d[1], 1, d[0]);
                is("the node ahead of it", g.node(0, 0, d[2] - 1, 1), 0);
                is("g by r", g.node(0, 0, d[2], 1), d[3]);
                is("one more", g.node(0, 0, d[2] + 1, 1), d[4]);
                is("two more", g.node(0, 0, d[2] + 2, 1), 0);
            }
        });
        says("Each NODE's PART is the product of its three PARTS.", () -> {
            // x 15: 1 and 7; y 11: 5 and 3; 255: 1 and 127
            ShadeGrid g = oneDot(15, 11, 255, 8, 128);
            is("the least", g.node(1, 1, 1, 1), 5);
            is("the greatest", g.node(2, 1, 2, 1), 7 * 5 * 127);
            is("the last", g.node(2, 2, 2, 1), 7 * 3 * 127);
            is("the greatest there can be", oneDot(8, 8, 128, 8, 128).node(1, 1, 1, 1), 8 * 8 * 128);
        });
        says("SPREAD: for each dot each NODE's WEIGHT gets its PART more, its SUM its PART times the PICTURE's "
                + "SHADE at that dot.", () -> {
            ShadeGrid g = gridOf(8, 128, 16, 12, 255);
            // along x 8 .. 1 are 36, 1 .. 7 are 28; along y 1, 2, 3 are 6; 255: 1 and 127
            is("the first", g.node(0, 0, 1, 0), 36 * 36);
            is("the first", g.node(0, 0, 1, 1), 255 * 36 * 36);
            is("the last", g.node(2, 2, 2, 0), 28 * 6 * 127);
            is("the last", g.node(2, 2, 2, 1), 255 * 28 * 6 * 127);
            is("no shade", gridOf(8, 128, 16, 12, 0).node(0, 0, 0, 1), 0);
            is("one dot alone", gridOf(8, 128, 1, 1, 0).node(0, 0, 0, 0), 8 * 8 * 128);
        });
    }

    private static void blurring() {
        says("BLUR along a way (0 x, 1 y, 2 the shade): WEIGHT and SUM of each NODE become twice its own and those "
                + "of both beside it along that way, as they were ahead of it.", () -> {
            int[][] ways = {{1, 0, 0}, {0, 1, 0}, {0, 0, 1}};
            for (int way = 0; way < 3; way++) {
                ShadeGrid g = blurred(gridOf(1, 8, 1, 1, 0), way);
                int[] w = ways[way];
                for (int far = -2; far <= 2; far++) {
                    int due = far == 0 ? 16 : far == 1 || far == -1 ? 8 : 0;
                    is("far " + far, g.node(far * w[0], far * w[1], far * w[2], 0), due);
                }
                is("not along another way", g.node(w[2], w[0], w[1], 0), 0);
            }
            // the last node of a row is not beside the first of the next one
            ShadeGrid g = blurred(oneDot(15, 0, 0, 1, 8), 0);
            is("beyond the right", g.node(16, 0, 0, 1), 8);
            is("the next row", g.node(0, 1, 0, 1), 0);
            is("beyond the left", blurred(oneDot(0, 1, 0, 1, 8), 0).node(-1, 1, 0, 1), 8);
            is("the row above", blurred(oneDot(0, 1, 0, 1, 8), 0).node(15, 0, 0, 1), 0);
            is("beyond all below", blurred(oneDot(0, 11, 0, 1, 8), 1).node(0, 12, 0, 1), 8);
            is("beyond all shades", blurred(oneDot(0, 0, 255, 1, 8), 2).node(0, 0, 33, 1), 7);
        });
        says("(Up to 3 times along each way.)", () -> {
            int[] twice = {0, 0, 1, 4, 6, 4, 1, 0, 0};
            for (int far = -4; far <= 4; far++) {
                is("twice, i " + far, blurred(gridOf(1, 8, 1, 1, 0), 0, 0).node(far, 0, 0, 0), 8 * twice[far + 4]);
                is("twice, j " + far, blurred(gridOf(1, 8, 1, 1, 0), 1, 1).node(0, far, 0, 0), 8 * twice[far + 4]);
                is("twice, k " + far, blurred(gridOf(1, 8, 1, 1, 0), 2, 2).node(0, 0, far, 0), 8 * twice[far + 4]);
            }
            int[] due = {1, 6, 15, 20, 15, 6, 1};
            ShadeGrid g = blurred(gridOf(1, 8, 1, 1, 0), 0, 0, 0, 1, 1, 1, 2, 2, 2);
            for (int far = -4; far <= 4; far++) {
                int one = far < -3 || far > 3 ? 0 : due[far + 3];
                is("far " + far, g.node(far, far, far, 0), 8L * one * one * one);
            }
            for (int way = 0; way < 3; way++) {
                is("a fourth time", g.blur(way), NONE);
                is("a fourth time", g.trouble(), 3);
            }
        });
    }

    private static void reading() {
        says("READ at a dot x, y by a SHADE g (PARTS as above): over all NODES PART times SUM, together, by PART "
                + "times WEIGHT, together.", () -> {
            // 0 at a node of shade 0, 100 at one of shade 8: by 2 the parts are 6 and 2
            ShadeGrid g = painted(2, 0, 100);
            paint(g, 1, 2, 0, 8);
            g.grid(0, 1, 8, 8);
            // at x 0: the node i 0 alone has 8 of the one dot, 7 of the other; at x 1 there are 7 and 1 of both nodes
            is("above", g.read(0, 0, 2, 0), 100 * 2 * 7 / 2);
            is("below", g.read(0, 0, 2, 1), (6 * 8 + 2 * 7) / 2);
            is("above", g.read(1, 0, 2, 0), 100 * 2 * (7 * 7 + 1) / 4);
            is("below", g.read(1, 0, 2, 1), (6 * 7 * 8 + 2 * (7 * 7 + 1)) / 4);
            for (int way = 0; way < 3; way++) {
                readsBlurredAlong(way);
            }
        });
        says("SHADE READ: the nearest whole number, of two as near the lower.", () -> {
            int[][] due = {{0, 1, 0, 0}, {0, 2, 0, 1}, {0, 3, 0, 1}, {1, 2, 0, 1}, {1, 2, 1, 1}, {1, 2, 2, 2},
                {255, 254, 255, 254}, {255, 255, 255, 255}, {255, 254, 254, 254}, {255, 255, 254, 255}};
            for (int[] d : due) {
                ShadeGrid g = painted(3, d[0], d[1], d[2]);
                g.fill(1, 3, 1, 0);
                g.grid(0, 1, 1, 8);
                g.blur(0);
                is(d[0] + " and twice " + d[1] + " and " + d[2] + " by 4", g.readShade(1, 0), d[3]);
            }
        });
    }

    /** 0 and 9 side by side, or one above the other, by one shade: only a blur along their way brings them together. */
    private static void readsBlurredAlong(int way) {
        for (int upright = 0; upright < 2; upright++) {
            ShadeGrid g = painted(upright == 1 ? 1 : 2, 0, 9);
            g.turn(1, 0, 0);
            g.set(1, 1 - upright, upright, 0);
            g.grid(0, 1, 1, 8);
            g.blur(way);
            int[] due = way == upright ? new int[] {3, 6, 5} : new int[] {0, 9, 9};
            is("blurred along " + way, g.readShade(0, 0), due[0]);
            is("blurred along " + way, g.readShade(1 - upright, upright), due[1]);
            g.blur(way);
            // 4 to 6 now: 5.4
            is("twice along " + way, g.readShade(1 - upright, upright), due[2]);
        }
    }

    private static void grid() {
        of(14);
        says("THE GRID of a PICTURE by a GUIDE: how many NODES have a WEIGHT above 0.", () -> {
            ShadeGrid g = new ShadeGrid();
            g.fill(0, 1, 1, 0);
            is("the fewest", g.grid(0, 0, 8, 128), 1);
            g.fill(0, 9, 1, 0);
            is("9 wide, s 8: no rest", g.grid(0, 0, 8, 8), 2);
            g.fill(0, 10, 1, 0);
            is("10 wide, s 8: a rest", g.grid(0, 0, 8, 8), 3);
            g.fill(0, 1, 9, 0);
            is("9 high, s 8: no rest", g.grid(0, 0, 8, 8), 2);
            g.fill(0, 1, 10, 0);
            is("10 high, s 8: a rest", g.grid(0, 0, 8, 8), 3);
            int[][] due = {{7, 2}, {8, 1}, {9, 2}, {248, 1}, {255, 2}};
            for (int[] d : due) {
                g.fill(0, 1, 1, d[0]);
                is("shade " + d[0] + ", r 8", g.grid(0, 0, 1, 8), d[1]);
            }
            g = PictureBoundaries.unlikeDots();
            is("192 dots, 24 of them without a rest", g.grid(0, 0, 1, 8), 2 * 192 - 24);
            is("as large as can be", gridOf(8, 128, 16, 12, 255).gridded(5), 3 * 3 * 2);
            g.fill(1, 16, 12, 8);
            is("by the guide's shades", g.grid(0, 1, 1, 8), 192);
            g.blur(0);
            g.grid(0, 1, 1, 8);
            is("a new one is not blurred", g.gridded(2), 0);
        });
        says("NONE: 1; 2 (s, r); 5 (not as WIDE, HIGH).", () -> {
            needsPicture((g, p) -> g.grid(p, p, 1, 8));
            refuses(1, g -> g.grid(NO_PICTURE, 0, 1, 8));
            refuses(1, g -> g.grid(0, NO_PICTURE, 1, 8));
            refuses(1, g -> g.grid(0, 6, 0, 7));
            refuses(1, g -> g.grid(-1, 0, 9, 129));
            bounds(1, 8, 2, (g, s) -> g.grid(0, 4, s, 128));
            bounds(8, 128, 2, (g, r) -> g.grid(0, 4, 8, r));
            refuses(2, g -> g.grid(0, 1, 0, 8));
            refuses(2, g -> g.grid(0, 1, 1, 129));
            refuses(5, g -> g.grid(0, 1, 1, 8));
            refuses(5, g -> g.grid(3, 2, 1, 8));
        });
    }

    private static void gridded() {
        of(15);
        says("Of THE GRID 0 STEP, 1 RANGE", () -> {
            is("the least", gridOf(1, 8, 1, 1, 0).gridded(0), 1);
            is("the least", gridOf(1, 8, 1, 1, 0).gridded(1), 8);
            is("the greatest", gridOf(8, 128, 1, 1, 0).gridded(0), 8);
            is("the greatest", gridOf(8, 128, 1, 1, 0).gridded(1), 128);
        });
        says("2 .. 4 how often it was BLURRED along 0 .. 2", () -> {
            for (int way = 0; way < 3; way++) {
                ShadeGrid g = gridOf(1, 8, 1, 1, 0);
                for (int n = 0; n < 5; n++) {
                    for (int other = 0; other < 3; other++) {
                        is("along " + other, g.gridded(2 + other), other == way ? Math.min(3, n) : 0);
                    }
                    g.blur(way);
                }
            }
        });
        says("5 how many NODES have a WEIGHT above 0.", () -> {
            is("the fewest", gridOf(1, 8, 1, 1, 0).gridded(5), 1);
            ShadeGrid g = blurred(gridOf(1, 8, 16, 12, 255), 0, 0, 0, 1, 1, 1, 2, 2, 2);
            is("beyond all sides", g.gridded(5), 22 * 18 * 8);
        });
        says("NONE: 1 (what, too).", () -> {
            bounds(0, 5, 1, (g, what) -> g.gridded(what));
            refuses(1, GridBoundaries::noGrid, g -> g.gridded(0));
            refuses(1, GridBoundaries::noGrid, g -> g.gridded(5));
        });
    }

    private static void node() {
        of(16);
        says("WEIGHT (what 0), SUM (1) of a NODE (any i, j, k).", () -> {
            ShadeGrid g = blurred(gridOf(8, 128, 16, 12, 255), 0, 0, 0, 1, 1, 1, 2, 2, 2);
            is("the outermost", g.node(-3, -3, -2, 0), 36 * 36);
            is("the outermost", g.node(5, 5, 5, 1), 255L * 28 * 6 * 127);
            is("beyond it", g.node(-4, -3, -2, 0), 0);
            is("beyond it", g.node(5, 5, 6, 1), 0);
            is("trouble()", g.trouble(), 0);
            for (int far : new int[] {LEAST, MOST}) {
                is("any", g.node(far, far, far, 0), 0);
                is("any", g.node(far, 0, 0, 1), 0);
                is("any", g.node(0, far, 0, 1), 0);
                is("any", g.node(0, 0, far, 1), 0);
                is("trouble()", g.trouble(), 0);
            }
        });
        says("NONE: 1 (no GRID, what).", () -> {
            bounds(0, 1, 1, (g, what) -> g.node(0, 0, 0, what));
            refuses(1, GridBoundaries::noGrid, g -> g.node(0, 0, 0, 0));
            refuses(1, ShadeGrid::new, g -> g.node(0, 0, 0, 1));
        });
    }

    private static void nth() {
        of(17);
        says("The m-th NODE (0: the first) with a WEIGHT above 0, by i, then j, then k: 0 i, 1 j, 2 k", () -> {
            ShadeGrid g = blurred(gridOf(1, 8, 2, 2, 1), 0, 1, 2);
            // i -1 .. 2, j -1 .. 2, k -1 .. 2
            is("all", g.gridded(5), 64);
            for (int m = 0; m < 64; m++) {
                is("i of " + m, g.nth(m, 0), m / 16 - 1);
                is("j of " + m, g.nth(m, 1), m / 4 % 4 - 1);
                is("k of " + m, g.nth(m, 2), m % 4 - 1);
            }
            g = blurred(gridOf(1, 8, 16, 12, 255), 0, 0, 0, 1, 1, 1, 2, 2, 2);
            int last = 22 * 18 * 8 - 1;
            is("the last i", g.nth(last, 0), 18);
            is("the last j", g.nth(last, 1), 14);
            is("the last k", g.nth(last, 2), 35);
            g = blurred(gridOf(1, 8, 1, 1, 0), 2, 2, 2, 1, 1, 1, 0, 0, 0);
            is("the first i there can be", g.nth(0, 0), -3);
            is("the first j there can be", g.nth(0, 1), -3);
            is("the first k there can be", g.nth(0, 2), -3);
            is("the last of them", g.nth(342, 2), 3);
        });
        says("-1,000 there are not so many.", () -> {
            for (int what = 0; what < 3; what++) {
                ShadeGrid g = gridOf(1, 8, 1, 1, 0);
                is("the only one", g.nth(0, what), 0);
                is("a second", g.nth(1, what), -1000);
                is("the most", g.nth(MOST, what), -1000);
                is("trouble()", g.trouble(), 0);
            }
        });
        says("NONE: 1 (no GRID, what, m below 0; i, j, k may be -1, too).", () -> {
            bounds(0, 2, 1, (g, what) -> g.nth(0, what));
            bounds(0, 2, 1, (g, what) -> g.nth(MOST, what));
            refuses(1, g -> g.nth(-1, 0));
            refuses(1, g -> g.nth(LEAST, 2));
            refuses(1, GridBoundaries::noGrid, g -> g.nth(0, 0));
            ShadeGrid g = blurred(gridOf(1, 8, 1, 1, 0), 0, 1, 2);
            for (int what = 0; what < 3; what++) {
                is("-1", g.nth(0, what), -1);
                is("trouble()", g.trouble(), 0);
            }
        });
    }

    private static void total() {
        of(18);
        says("All WEIGHTS (what 0), all SUMS (1) together.", () -> {
            is("the least", gridOf(1, 8, 1, 1, 0).total(0), 8);
            is("the least", gridOf(1, 8, 1, 1, 0).total(1), 0);
            for (int way = 0; way < 3; way++) {
                ShadeGrid one = gridOf(1, 8, 1, 1, 3);
                for (int times = 0; times <= 3; times++) {
                    is("along " + way, one.total(0), 8 << 2 * times);
                    is("along " + way, one.total(1), 24 << 2 * times);
                    one.blur(way);
                }
            }
            ShadeGrid g = blurred(gridOf(8, 128, 16, 12, 255), 0, 0, 0, 1, 1, 1, 2, 2, 2);
            is("the most", g.total(0), 192L * 8 * 8 * 128 << 18);
            is("the most", g.total(1), 255 * (192L * 8 * 8 * 128 << 18));
        });
        says("NONE: 1 (what, too).", () -> {
            bounds(0, 1, 1, (g, what) -> g.total(what));
            refuses(1, GridBoundaries::noGrid, g -> g.total(0));
        });
    }

    private static void blur() {
        of(19);
        says("THE GRID is BLURRED along a way: how many NODES have a WEIGHT above 0.", () -> {
            for (int way = 0; way < 3; way++) {
                ShadeGrid g = gridOf(1, 8, 1, 1, 0);
                for (int n = 1; n <= 3; n++) {
                    is("once more along " + way, g.blur(way), 1 + 2 * n);
                }
            }
            ShadeGrid g = gridOf(1, 8, 16, 12, 255);
            int[] ways = {0, 0, 0, 1, 1, 1, 2, 2, 2};
            int[] due = {18 * 12 * 2, 20 * 12 * 2, 22 * 12 * 2, 22 * 14 * 2, 22 * 16 * 2, 22 * 18 * 2,
                22 * 18 * 4, 22 * 18 * 6, 22 * 18 * 8};
            for (int n = 0; n < 9; n++) {
                is("of as many dots as can be", g.blur(ways[n]), due[n]);
            }
            g = gridOf(1, 8, 16, 12, 255);
            int[] upwards = {16 * 12 * 4, 16 * 12 * 6, 16 * 12 * 8, 16 * 14 * 8, 16 * 16 * 8, 16 * 18 * 8,
                18 * 18 * 8, 20 * 18 * 8, 22 * 18 * 8};
            for (int n = 0; n < 9; n++) {
                is("the other way round", g.blur(ways[8 - n]), upwards[n]);
            }
        });
        says("NONE: 1 (way, too); 3 (three times already).", () -> {
            bounds(0, 2, 1, (g, way) -> g.blur(way));
            refuses(1, GridBoundaries::noGrid, g -> g.blur(0));
            for (int way = 0; way < 3; way++) {
                int along = way;
                Supplier<ShadeGrid> three = () -> blurred(gridOf(1, 8, 3, 2, 7), along, along, along);
                refuses(3, three, g -> g.blur(along));
                refuses(1, three, g -> g.blur(3));
                is("another way", three.get().blur((way + 1) % 3) > 0, true);
            }
        });
    }

    /** The shade 128, blurred so far that every shade finds some weight. */
    private static ShadeGrid everyShade() {
        ShadeGrid g = full();
        g.fill(0, 3, 2, 128);
        g.grid(0, 0, 1, 128);
        return blurred(g, 2, 2, 2);
    }

    private static void read() {
        of(20);
        says("READ at a dot of the PICTURE of THE GRID by a SHADE (0 .. 255)", () -> {
            bounds(0, 255, 2, GridBoundaries::everyShade, (g, shade) -> g.read(0, 0, shade, 0));
            bounds(0, 2, 1, GridBoundaries::everyShade, (g, x) -> g.read(x, 1, 0, 0));
            bounds(0, 1, 1, GridBoundaries::everyShade, (g, y) -> g.read(2, y, 0, 1));
            ShadeGrid g = everyShade();
            g.fill(0, 1, 1, 0);
            is("as it was when THE GRID was made", g.read(2, 1, 128, 0), 128);
        });
        says("in lowest terms: above (what 0), below (1).", () -> {
            ShadeGrid g = gridOf(8, 128, 16, 12, 0);
            is("nothing above", g.read(7, 7, 0, 0), 0);
            is("nothing above", g.read(7, 7, 0, 1), 1);
            g = blurred(gridOf(8, 128, 16, 12, 255), 0, 0, 0, 1, 1, 1, 2, 2, 2);
            is("the largest numbers", g.read(7, 7, 255, 0), 255);
            is("the largest numbers", g.read(7, 7, 255, 1), 1);
            g = painted(2, 0, 3);
            g.fill(1, 2, 1, 0);
            g.grid(0, 1, 1, 8);
            g.blur(0);
            is("3 by 3", g.read(0, 0, 0, 0), 1);
            is("3 by 3", g.read(0, 0, 0, 1), 1);
            g.set(0, 1, 0, 2);
            g.grid(0, 1, 1, 8);
            g.blur(0);
            is("2 by 3", g.read(0, 0, 0, 0), 2);
            is("2 by 3", g.read(0, 0, 0, 1), 3);
            is("4 by 3", g.read(1, 0, 0, 0), 4);
            // r 9, by 1: what comes of a 1 is 8 * 8 + 1 * 1, of a 2 it is 8 * 7 + 1 * 2, once and twice
            g = painted(2, 1, 2);
            g.grid(0, 0, 1, 9);
            g.blur(0);
            is("no divisor in common", g.read(1, 0, 1, 0), 65 + 2 * 2 * 58);
            is("no divisor in common", g.read(1, 0, 1, 1), 65 + 2 * 58);
        });
        says("NONE: 1 (no GRID, dot, what); 2", () -> {
            bounds(0, 1, 1, GridBoundaries::everyShade, (g, what) -> g.read(0, 0, 0, what));
            refuses(1, GridBoundaries::noGrid, g -> g.read(0, 0, 0, 0));
            refuses(1, GridBoundaries::noGrid, g -> g.read(0, 0, 256, 0));
            refuses(1, g -> g.read(3, 0, -1, 0));
            refuses(1, g -> g.read(0, 2, 256, 0));
            refuses(1, g -> g.read(0, 0, 256, 2));
            refuses(2, g -> g.read(0, 0, 256, 0));
        });
        says("5 (no WEIGHT there).", () -> {
            is("the last shade with one", gridOf(1, 8, 1, 1, 0).read(0, 0, 7, 0), 0);
            refuses(5, () -> gridOf(1, 8, 1, 1, 0), g -> g.read(0, 0, 8, 0));
            refuses(5, () -> gridOf(1, 8, 1, 1, 0), g -> g.read(0, 0, 255, 1));
            is("blurred", blurred(gridOf(1, 8, 1, 1, 0), 2).read(0, 0, 15, 1), 1);
            refuses(5, () -> blurred(gridOf(1, 8, 1, 1, 0), 2), g -> g.read(0, 0, 16, 1));
            is("the least shade with one", gridOf(1, 8, 1, 1, 16).read(0, 0, 9, 1), 1);
            refuses(5, () -> gridOf(1, 8, 1, 1, 16), g -> g.read(0, 0, 8, 0));
            // 15 has 1 of 8 at k 1, and so has 1: there is a WEIGHT of 1
            is("the least there can be", gridOf(1, 8, 1, 1, 15).read(0, 0, 1, 0), 15);
            is("the least there can be", gridOf(1, 8, 1, 1, 15).read(0, 0, 1, 1), 1);
            refuses(5, () -> gridOf(1, 8, 1, 1, 15), g -> g.read(0, 0, 0, 0));
            Supplier<ShadeGrid> apart = () -> {
                ShadeGrid g = painted(2, 0, 255);
                g.grid(0, 0, 1, 8);
                return g;
            };
            refuses(5, apart, g -> g.read(1, 0, 0, 0));
            is("blurred along x", blurred(apart.get(), 0).read(1, 0, 0, 1), 1);
        });
    }

    private static void readShade() {
        of(21);
        says("The SHADE READ there by the SHADE that the GUIDE had there as THE GRID was made.", () -> {
            ShadeGrid g = painted(2, 0, 3);
            g.fill(1, 2, 1, 255);
            g.grid(0, 1, 1, 8);
            g.blur(0);
            g.set(1, 0, 0, 0);
            is("the guide is another one", g.readShade(0, 0), 1);
            g.fill(1, 1, 1, 0);
            is("it is smaller", g.readShade(1, 0), 2);
            g.fill(0, 1, 1, 0);
            is("the picture, too", g.readShade(1, 0), 2);
            for (int acts = 0; acts < 7; acts++) {
                g.undo();
            }
            is("there is no guide", g.about(1, 0), NONE);
            is("there is no guide", g.readShade(1, 0), 2);
            is("0", gridOf(8, 128, 16, 12, 0).readShade(15, 11), 0);
            is("255", gridOf(8, 128, 16, 12, 255).readShade(15, 11), 255);
        });
        says("NONE: 1.", () -> {
            bounds(0, 2, 1, (g, x) -> g.readShade(x, 1));
            bounds(0, 1, 1, (g, y) -> g.readShade(2, y));
            refuses(1, GridBoundaries::noGrid, g -> g.readShade(0, 0));
            refuses(1, ShadeGrid::new, g -> g.readShade(0, 0));
        });
    }
}
