/** One method for each promise of the document: ordinary inputs, the edges it names, wrong inputs. */
public final class PromisesTest extends Checks {
    /** A call that is refused must say so by its answer and by trouble(). */
    private static void refused(ShadeGrid g, String call, long got, int number) {
        is(call, got, NONE);
        is(call + " trouble()", g.trouble(), number);
    }

    private static void refused(ShadeGrid g, String call, boolean got, int number) {
        is(call, got, false);
        is(call + " trouble()", g.trouble(), number);
    }

    /** Pictures 4 and 5 are as high, as wide as picture 0, but not both. */
    private static void addUnlike(ShadeGrid g) {
        g.fill(4, g.about(0, 0) + 1, g.about(0, 1), 0);
        g.fill(5, g.about(0, 0), g.about(0, 1) + 1, 0);
    }

    private static void faulty(String text, int fault, int place) {
        ShadeGrid g = told("pic old p");
        g.fill(1, 2, 2, 5);
        g.grid(0, 0, 1, 8);
        is("text " + text, tell(g, text), NONE);
        is("trouble() of " + text, g.trouble(), 4);
        is("where() of " + text, g.where(), place);
        is("fault() of " + text, g.fault(), fault);
        is("bytes() of " + text, g.bytes(), 0);
        is("what stood ahead of " + text, g.dot(0, 0, 0), 255);
        is("where() later", g.where(), NONE);
        is("grid ahead of " + text, g.gridded(0), 1);
        is("name ahead of " + text, g.letter(0, 0), 'o' - 'a');
        is("undo() ahead of " + text, g.undo(), 0);
    }

    private static void newObject() {
        ShadeGrid g = new ShadeGrid();
        is("trouble()", g.trouble(), 0);
        is("where()", g.where(), NONE);
        is("fault()", g.fault(), 0);
        is("bytes()", g.bytes(), 0);
        is("octet(0)", g.octet(0), NONE);
        for (int p = -1; p < 7; p++) {
            refused(g, "about", g.about(p, 0), 1);
        }
        refused(g, "gridded", g.gridded(0), 1);
        refused(g, "undo", g.undo(), 5);
        ShadeGrid other = new ShadeGrid();
        other.fill(0, 1, 1, 1);
        refused(g, "about", g.about(0, 0), 1);
    }

    private static void feed() {
        ShadeGrid g = new ShadeGrid();
        g.dot(0, 0, 0);
        for (int n = 1; n <= 35; n++) {
            is("feed", g.feed(0x20202020, 0x20202020, 0x20202020, 0x20202020, 0x20202020), 20 * n);
        }
        is("feed beyond 700", g.feed(0, 0, 0, 0, 0), NONE);
        is("bytes", g.bytes(), 700);
        is("trouble stays", g.trouble(), 1);
        // "pic a b/c " then bytes above 127 at place 10
        g = new ShadeGrid();
        g.feed(0x70696320, 0x6120622f, 0x6320ff80, 0, 0);
        is("text", g.text(11), NONE);
        is("where", g.where(), 10);
        g.feed(0x70696320, 0x6120622f, 0x6320ff80, 0, 0);
        is("text", g.text(10), 1);
        dots(g, 0, 1, 17, 34);
        is("feed behind a text", g.feed(1, 2, 3, 4, 5), 20);
    }

    private static void text() {
        ShadeGrid g = new ShadeGrid();
        feedAll(g, "pic a ap/pa;pic b c");
        refused(g, "text(21)", g.text(21), 2);
        refused(g, "text(-1)", g.text(-1), 2);
        is("bytes", g.bytes(), 20);
        is("text", g.text(19), 2);
        is("trouble", g.trouble(), 0);
        is("bytes", g.bytes(), 0);
        dots(g, 0, 2, 0, 255, 255, 0);
        dots(g, 1, 1, 34);
        g.fill(5, 1, 1, 1);
        g.fill(1, 1, 1, 1);
        g.grid(0, 0, 1, 8);
        is("text", tell(g, "  pic  q   b / c "), 1);
        dots(g, 0, 1, 17, 34);
        refused(g, "others gone", g.about(1, 0), 1);
        refused(g, "others gone", g.about(5, 0), 1);
        refused(g, "no grid", g.gridded(0), 1);
        refused(g, "no act to undo", g.undo(), 5);
        is("four", tell(g, "pic pic pic;pic b p;pic c p;pic d abcdefghijklmnop/ponmlkjihgfedcba"), 4);
        is("sixteen wide", g.about(3, 0), 16);
        dots(g, 0, 3, 255, 136, 34);
        is("twelve rows", tell(g, "pic a a/b/c/d/e/f/g/h/i/j/k/l"), 1);
        is("high", g.about(0, 1), 12);
        is("a name of sixteen", tell(g, "pic abcdefghijklmnop a"), 1);
    }

    private static void fault() {
        ShadeGrid g = new ShadeGrid();
        is("ahead of any", g.fault(), 0);
        tell(g, "pic a q");
        is("of a row", g.fault(), 2);
        refused(g, "text(1)", g.text(1), 2);
        is("behind one refused by 2", g.fault(), 2);
        g.dot(0, 0, 0);
        is("behind another call", g.fault(), 2);
        tell(g, "pic a a");
        is("behind one without", g.fault(), 0);
        faulty("", 1, 0);
        faulty("    ", 1, 4);
        faulty("foo a a", 1, 0);
        faulty("pica a a", 1, 0);
        faulty("pi a a", 1, 0);
        faulty("; pic a a", 1, 0);
        faulty("pic", 1, 3);
        faulty("pic   ", 1, 6);
        faulty("pic ; a", 1, 4);
        faulty("pic a / a", 1, 6);
        faulty("pic a", 1, 5);
        faulty("pic a a b", 1, 8);
        faulty("pic a a;", 1, 8);
        faulty("pic a a/", 1, 8);
        faulty("pic a a//a", 1, 8);
        faulty("pic a a/;", 1, 8);
        faulty("pic a a;;pic b a", 1, 8);
        faulty("pic a A", 1, 6);
        faulty("pic a aB", 1, 7);
        faulty("pic a a`", 1, 7);
        faulty("pic a a{", 1, 7);
        faulty("pic a a\0", 1, 7);
        faulty("pic aaaaaaaaaaaaaaaaa a", 1, 4);
        faulty("pic a aaaaaaaaaaaaaaaaa", 1, 6);
        faulty("picpicpicpicpicpicpic", 1, 0);
        faulty("pic a q", 2, 6);
        faulty("pic a aq!", 2, 6);
        faulty("pic a ab/abc", 2, 9);
        faulty("pic a ab/a", 2, 9);
        faulty("pic a ab/az", 2, 9);
        faulty("pic a ab;pic b abc/ab", 2, 19);
        faulty("pic a a;pic a a", 3, 12);
        faulty("pic ab a;pic b a; pic ab a", 3, 22);
        faulty("pic a a;pic b a;pic c a;pic d a;pic e a", 4, 32);
        faulty("pic a a;pic b a;pic c a;pic d a;pie e a", 1, 32);
        faulty("pic a a;pic b a;pic c a;pic d a;", 1, 32);
        faulty("pic a a/a/a/a/a/a/a/a/a/a/a/a/a", 4, 30);
        faulty("pic a a/a/a/a/a/a/a/a/a/a/a/a/ab", 2, 30);
        faulty("pic a a/a/a/a/a/a/a/a/a/a/a/a/q", 2, 30);
        faulty("pic a a/a/a/a/a/a/a/a/a/a/a/a/;", 1, 30);
        is("names that begin alike", tell(g, "pic ab a;pic a a;pic abc a"), 3);
    }

    private static void where() {
        ShadeGrid g = new ShadeGrid();
        is("ahead of any", g.where(), NONE);
        tell(g, "pic a q");
        is("behind a fault", g.where(), 6);
        g.feed(0, 0, 0, 0, 0);
        g.octet(0);
        g.bytes();
        g.fault();
        g.trouble();
        is("calls that are never refused leave it", g.where(), 6);
        g.text(21);
        is("behind one refused by 2", g.where(), NONE);
        tell(g, "pic a q");
        g.fill(0, 1, 1, 1);
        is("behind a call not refused", g.where(), NONE);
    }

    private static void about() {
        ShadeGrid g = told("pic a abp/bbp");
        int[] due = {3, 2, 0, 255, 0 + 17 + 255 + 17 + 17 + 255, 3};
        for (int what = 0; what < 6; what++) {
            is("about " + what, g.about(0, what), due[what]);
        }
        is("trouble", g.trouble(), 0);
        ShadeGrid falling = painted(2, 9, 8, 7, 5);
        is("the least last", falling.about(0, 2), 5);
        is("the greatest first", falling.about(0, 3), 9);
        refused(g, "what 6", g.about(0, 6), 1);
        refused(g, "what -1", g.about(0, -1), 1);
        refused(g, "picture 1", g.about(1, 0), 1);
        refused(g, "picture 6", g.about(6, 0), 1);
        refused(g, "picture -1", g.about(-1, 0), 1);
    }

    private static void dot() {
        ShadeGrid g = told("pic a abp/bcd");
        dots(g, 0, 3, 0, 17, 255, 17, 34, 51);
        refused(g, "x 3", g.dot(0, 3, 0), 1);
        refused(g, "y 2", g.dot(0, 0, 2), 1);
        refused(g, "x -1", g.dot(0, -1, 1), 1);
        refused(g, "y -1", g.dot(0, 0, -1), 1);
        refused(g, "picture", g.dot(2, 0, 0), 1);
    }

    private static void often() {
        ShadeGrid g = told("pic a abp/bbp");
        is("17", g.often(0, 17), 3);
        is("255", g.often(0, 255), 2);
        is("0", g.often(0, 0), 1);
        is("1", g.often(0, 1), 0);
        refused(g, "256", g.often(0, 256), 2);
        refused(g, "-1", g.often(0, -1), 2);
        refused(g, "picture first", g.often(1, 256), 1);
    }

    private static void set() {
        ShadeGrid g = told("pic a abp/bbp");
        is("set", g.set(0, 2, 1, 7), 255);
        is("set", g.set(0, 2, 1, 7), 7);
        dots(g, 0, 3, 0, 17, 255, 17, 17, 7);
        refused(g, "256", g.set(0, 0, 0, 256), 2);
        refused(g, "-1", g.set(0, 0, 0, -1), 2);
        refused(g, "dot first", g.set(0, 3, 0, 256), 1);
        refused(g, "picture", g.set(1, 0, 0, 1), 1);
        is("both are acts", g.undo(), 1);
        is("undone", g.dot(0, 2, 1), 7);
        is("undo", g.undo(), 0);
        is("undone", g.dot(0, 2, 1), 255);
    }

    private static void fill() {
        ShadeGrid g = new ShadeGrid();
        is("fill", g.fill(5, 16, 12, 255), true);
        is("all", g.about(5, 4), 255 * 192);
        is("fill", g.fill(5, 1, 1, 0), true);
        dots(g, 5, 1, 0);
        refused(g, "to 6", g.fill(6, 1, 1, 0), 1);
        refused(g, "to first", g.fill(-1, 0, 0, -1), 1);
        refused(g, "wide 0", g.fill(0, 0, 1, 0), 2);
        refused(g, "wide 17", g.fill(0, 17, 1, 0), 2);
        refused(g, "high 0", g.fill(0, 1, 0, 0), 2);
        refused(g, "high 13", g.fill(0, 1, 13, 0), 2);
        refused(g, "shade 256", g.fill(0, 1, 1, 256), 2);
        refused(g, "shade -1", g.fill(0, 1, 1, -1), 2);
        refused(g, "nothing came of it", g.dot(0, 0, 0), 1);
        is("two acts", g.undo(), 1);
        is("the one that was gone", g.about(5, 4), 255 * 192);
    }

    private static void turn() {
        ShadeGrid g = painted(3, 1, 2, 3, 4, 5, 6);
        is("0", g.turn(1, 0, 0), true);
        dots(g, 1, 3, 1, 2, 3, 4, 5, 6);
        is("1", g.turn(1, 0, 1), true);
        dots(g, 1, 3, 3, 2, 1, 6, 5, 4);
        is("2", g.turn(1, 0, 2), true);
        dots(g, 1, 3, 4, 5, 6, 1, 2, 3);
        is("3", g.turn(1, 0, 3), true);
        dots(g, 1, 2, 1, 4, 2, 5, 3, 6);
        is("4", g.turn(1, 0, 4), true);
        dots(g, 1, 3, 254, 253, 252, 251, 250, 249);
        is("upon itself", g.turn(0, 0, 3), true);
        dots(g, 0, 2, 1, 4, 2, 5, 3, 6);
        g.fill(2, 13, 1, 0);
        refused(g, "13 wide", g.turn(3, 2, 3), 3);
        is("13 wide, not by 3", g.turn(3, 2, 2), true);
        g.fill(2, 12, 12, 0);
        is("12 wide", g.turn(3, 2, 3), true);
        refused(g, "to", g.turn(6, 0, 0), 1);
        refused(g, "of", g.turn(0, 5, 0), 1);
        refused(g, "what 5", g.turn(0, 0, 5), 1);
        refused(g, "what -1", g.turn(0, 0, -1), 1);
    }

    private static void part() {
        ShadeGrid g = painted(3, 1, 2, 3, 4, 5, 6);
        is("part", g.part(1, 0, 1, 0, 2, 2), true);
        dots(g, 1, 2, 2, 3, 5, 6);
        is("upon itself", g.part(0, 0, 2, 1, 1, 1), true);
        dots(g, 0, 1, 6);
        is("all", g.part(0, 1, 0, 0, 2, 2), true);
        refused(g, "too wide", g.part(0, 1, 1, 0, 2, 1), 2);
        refused(g, "too high", g.part(0, 1, 0, 1, 1, 2), 2);
        refused(g, "wide 0", g.part(0, 1, 0, 0, 0, 1), 2);
        refused(g, "high 0", g.part(0, 1, 0, 0, 1, 0), 2);
        refused(g, "most wide", g.part(0, 1, 1, 0, Integer.MAX_VALUE, 1), 2);
        refused(g, "least high", g.part(0, 1, 1, 0, 1, Integer.MIN_VALUE), 2);
        refused(g, "dot first", g.part(0, 1, 2, 0, 9, 9), 1);
        refused(g, "to", g.part(6, 1, 0, 0, 1, 1), 1);
        refused(g, "of", g.part(0, 3, 0, 0, 1, 1), 1);
        dots(g, 0, 2, 2, 3, 5, 6);
    }

    private static void noise() {
        // seed 1: 149, 11249, 57305 (11249 * 75 + 74 = 843749 = 12 * 65537 + 57305)
        ShadeGrid g = painted(3, 100, 100, 100);
        is("noise", g.noise(0, 1, 5), 3);
        // mod 11: 6, 7, 6; less 5
        dots(g, 0, 3, 101, 102, 101);
        // mod 3: 2, 2, 2; mod 5: 4, 4, 0; mod 7: 2, 0, 3, less 3
        paint(g, 0, 3, 100, 100, 100);
        is("one is as it was", g.noise(0, 1, 3), 2);
        dots(g, 0, 3, 99, 97, 100);
        is("none by 0", g.noise(0, 65536, 0), 0);
        paint(g, 1, 1, 0, 255, 0);
        // 149 mod 255 = 149, less 127: 22; 11249 mod 255 = 29, less 127: -98; 57305 mod 255 = 185, less 127: 58
        is("held", g.noise(1, 1, 127), 3);
        dots(g, 1, 1, 22, 157, 58);
        paint(g, 1, 1, 250, 50);
        is("held", g.noise(1, 1, 127), 2);
        dots(g, 1, 1, 255, 0);
        paint(g, 1, 1, 100);
        // seed 0: 74 mod 255, less 127
        is("seed 0", g.noise(1, 0, 127), 1);
        dots(g, 1, 1, 47);
        refused(g, "seed 65537", g.noise(0, 65537, 1), 2);
        refused(g, "seed -1", g.noise(0, -1, 1), 2);
        refused(g, "by 128", g.noise(0, 0, 128), 2);
        refused(g, "by -1", g.noise(0, 0, -1), 2);
        refused(g, "picture first", g.noise(4, 0, -1), 1);
        is("seed 65536", g.noise(0, 65536, 127), 3);
        is("an act", g.undo() >= 0, true);
    }

    /** Dots 0 and 17 side by side, s 2, r 16: five NODES, all worked out by hand. */
    private static ShadeGrid smallGrid() {
        ShadeGrid g = told("pic a ab;pic b a/b;pic c bp");
        is("grid", g.grid(0, 0, 2, 16), 5);
        return g;
    }

    private static void grid() {
        ShadeGrid g = smallGrid();
        is("trouble", g.trouble(), 0);
        is("by a guide", g.grid(0, 2, 8, 128), 5);
        is("again", g.grid(0, 0, 1, 8), 3);
        is("blur", g.blur(0) > 0, true);
        refused(g, "s 0", g.grid(0, 0, 0, 8), 2);
        refused(g, "s 9", g.grid(0, 0, 9, 8), 2);
        refused(g, "r 7", g.grid(0, 0, 1, 7), 2);
        refused(g, "r 129", g.grid(0, 0, 1, 129), 2);
        refused(g, "number first", g.grid(0, 1, 1, 129), 2);
        refused(g, "not as wide", g.grid(0, 1, 1, 8), 5);
        refused(g, "of", g.grid(5, 0, 0, 0), 1);
        refused(g, "guide", g.grid(0, 5, 0, 0), 1);
        is("refused, it stays", g.gridded(2), 1);
        is("again", g.grid(0, 0, 1, 8), 3);
        is("not blurred", g.gridded(2), 0);
        g.fill(3, 16, 12, 200);
        is("large", g.grid(3, 3, 8, 64), 3 * 3 * 2);
        is("no act", g.undo(), 0);
        is("it stays", g.gridded(5), 18);
        addUnlike(g);
        refused(g, "wider", g.grid(0, 4, 1, 8), 5);
        refused(g, "higher", g.grid(0, 5, 1, 8), 5);
        // one above the other, s 2, r 8: 0 at j 0; 17 (k 2 and 3) at j 0 and 1
        is("upright", g.grid(1, 1, 2, 8), 5);
        is("upright, s 1", g.grid(1, 1, 1, 8), 3);
        g.fill(3, 1, 12, 0);
        is("12 high, s 3", g.grid(3, 3, 3, 8), 5);
        g.fill(3, 1, 1, 16);
        is("on a node of the shade", g.grid(3, 3, 1, 8), 1);
    }

    private static void gridded() {
        ShadeGrid g = smallGrid();
        g.blur(1);
        g.blur(2);
        g.blur(2);
        int[] due = {2, 16, 0, 1, 2};
        for (int what = 0; what < 5; what++) {
            is("gridded " + what, g.gridded(what), due[what]);
        }
        // k of i 0: 0 .. 2, of i 1: 1 .. 2; widened by 2: -2 .. 4, -1 .. 4; three j each
        is("gridded 5", g.gridded(5), 3 * (7 + 6));
        refused(g, "what 6", g.gridded(6), 1);
        refused(g, "what -1", g.gridded(-1), 1);
        ShadeGrid none = new ShadeGrid();
        refused(none, "no grid", none.gridded(0), 1);
        tell(g, "pic a q");
        is("it stays", g.gridded(1), 16);
        tell(g, "pic a a");
        refused(g, "gone", g.gridded(1), 1);
    }

    private static void node() {
        ShadeGrid g = smallGrid();
        long[][] due = {{0, 0, 64, 0}, {0, 1, 30, 510}, {0, 2, 2, 34}, {1, 1, 30, 510}, {1, 2, 2, 34}, {1, 0, 0, 0}};
        for (long[] n : due) {
            is("WEIGHT", g.node((int) n[0], 0, (int) n[1], 0), n[2]);
            is("SUM", g.node((int) n[0], 0, (int) n[1], 1), n[3]);
        }
        is("beside", g.node(0, 1, 0, 0), 0);
        is("beside", g.node(0, -1, 0, 0), 0);
        is("far", g.node(Integer.MIN_VALUE, Integer.MAX_VALUE, 0, 0), 0);
        is("far", g.node(0, 0, Integer.MIN_VALUE, 1), 0);
        is("far", g.node(0, 0, Integer.MAX_VALUE, 1), 0);
        is("trouble", g.trouble(), 0);
        g.blur(0);
        long[] across = {30, 90, 90, 30};
        for (int i = -2; i <= 3; i++) {
            is("k 1, i " + i, g.node(i, 0, 1, 0), i < -1 || i > 2 ? 0 : across[i + 1]);
            is("k 1, i " + i, g.node(i, 0, 1, 1), i < -1 || i > 2 ? 0 : 17 * across[i + 1]);
        }
        is("k 0", g.node(0, 0, 0, 0), 128);
        is("k 0", g.node(-1, 0, 0, 0), 64);
        g.blur(2);
        is("k -1", g.node(0, 0, -1, 0), 128);
        is("k 0", g.node(0, 0, 0, 0), 2 * 128 + 90);
        is("k 0", g.node(0, 0, 0, 1), 17 * 90);
        g.blur(1);
        is("j -1", g.node(0, -1, 0, 0), 346);
        is("j 0", g.node(0, 0, 0, 0), 692);
        is("upright", g.grid(1, 1, 2, 16), 5);
        is("upright", g.node(0, 1, 1, 0), 30);
        is("upright", g.node(1, 0, 1, 0), 0);
        nodesOfOneDot();
        refused(g, "what 2", g.node(0, 0, 0, 2), 1);
        refused(g, "what -1", g.node(0, 0, 0, -1), 1);
        ShadeGrid none = new ShadeGrid();
        refused(none, "no grid", none.node(0, 0, 0, 0), 1);
    }

    /** One dot of shade 3 at a node of its own, r 8, PARTS 5 and 3. */
    private static void nodesOfOneDot() {
        long[][] comeOf = {{0, 0, 0, 1, 0, 0, 0}, {0, 0, 1, 2, 1, 0, 0}, {0, 1, 4, 6, 4, 1, 0}, {1, 6, 15, 20, 15, 6, 1}};
        for (int way = 0; way < 3; way++) {
            ShadeGrid g = painted(1, 3);
            g.grid(0, 0, 1, 8);
            for (int times = 0; times < 4; times++) {
                for (int far = -5; far <= 5; far++) {
                    long here = far < -3 || far > 3 ? 0 : comeOf[times][far + 3];
                    long before = far < -2 || far > 4 ? 0 : comeOf[times][far + 2];
                    long due = way < 2 ? 5 * here : 5 * here + 3 * before;
                    int i = way == 0 ? far : 0;
                    int j = way == 1 ? far : 0;
                    int k = way == 2 ? far : 0;
                    is("WEIGHT", g.node(i, j, k, 0), due);
                    is("SUM", g.node(i, j, k, 1), 3 * due);
                }
                g.blur(way);
            }
        }
    }

    private static void nth() {
        ShadeGrid g = smallGrid();
        int[][] due = {{0, 0, 0}, {0, 0, 1}, {0, 0, 2}, {1, 0, 1}, {1, 0, 2}};
        for (int m = 0; m < 5; m++) {
            for (int what = 0; what < 3; what++) {
                is("nth " + m + ", " + what, g.nth(m, what), due[m][what]);
            }
        }
        is("nth 5", g.nth(5, 0), -1000);
        is("trouble", g.trouble(), 0);
        is("nth most", g.nth(Integer.MAX_VALUE, 2), -1000);
        g.blur(1);
        is("by i, then j, then k", g.nth(3, 1), 0);
        is("by i, then j, then k", g.nth(2, 2), 2);
        is("below 0", g.nth(0, 1), -1);
        g.fill(3, 16, 12, 255);
        g.grid(3, 3, 1, 8);
        for (int n = 0; n < 9; n++) {
            g.blur(n % 3);
        }
        // i -3 .. 18, j -3 .. 14, k 28 .. 35
        is("all that can be", g.gridded(5), 22 * 18 * 8);
        int[] first = {-3, -3, 28};
        int[] last = {18, 14, 35};
        for (int what = 0; what < 3; what++) {
            is("the first", g.nth(0, what), first[what]);
            is("the last", g.nth(22 * 18 * 8 - 1, what), last[what]);
            is("none", g.nth(22 * 18 * 8, what), -1000);
        }
        g.fill(3, 1, 1, 0);
        g.grid(3, 3, 8, 128);
        g.blur(2);
        g.blur(2);
        g.blur(2);
        is("the lowest", g.nth(0, 2), -3);
        is("seven", g.gridded(5), 7);
        is("the highest", g.nth(6, 2), 3);
        g = smallGrid();
        refused(g, "m -1", g.nth(-1, 0), 1);
        refused(g, "what 3", g.nth(0, 3), 1);
        refused(g, "what -1", g.nth(0, -1), 1);
        ShadeGrid none = new ShadeGrid();
        refused(none, "no grid", none.nth(0, 0), 1);
    }

    private static void total() {
        ShadeGrid g = smallGrid();
        is("WEIGHTS", g.total(0), 128);
        is("SUMS", g.total(1), 64 * 17);
        g.blur(0);
        is("WEIGHTS", g.total(0), 512);
        g.blur(2);
        is("SUMS", g.total(1), 16 * 64 * 17);
        refused(g, "what 2", g.total(2), 1);
        refused(g, "what -1", g.total(-1), 1);
        g.fill(0, 16, 12, 255);
        g.grid(0, 0, 8, 128);
        for (int way = 0; way < 9; way++) {
            g.blur(way % 3);
        }
        is("most WEIGHTS", g.total(0), 192L * 8 * 8 * 128 * (1 << 18));
        is("most SUMS", g.total(1), 255L * 192 * 8 * 8 * 128 * (1 << 18));
        ShadeGrid none = new ShadeGrid();
        refused(none, "no grid", none.total(0), 1);
    }

    private static void blur() {
        ShadeGrid g = smallGrid();
        is("along x", g.blur(0), 3 + 4 + 4);
        is("along y", g.blur(1), 33);
        // each i has its k widened: -1 and 2 had 0 / 0 .. 2 / 0 .. 2 / 1 .. 2
        is("along the shade", g.blur(2), 3 * (5 + 5 + 5 + 4));
        is("again", g.blur(0) > 0, true);
        is("again", g.blur(0) > 0, true);
        refused(g, "a fourth time", g.blur(0), 3);
        is("three times", g.gridded(2), 3);
        is("another way", g.blur(1) > 0, true);
        refused(g, "way 3", g.blur(3), 1);
        refused(g, "way -1", g.blur(-1), 1);
        ShadeGrid none = new ShadeGrid();
        refused(none, "no grid", none.blur(0), 1);
    }

    private static void read() {
        ShadeGrid g = smallGrid();
        is("above", g.read(0, 0, 8, 0), 255);
        is("below", g.read(0, 0, 8, 1), 47);
        is("above", g.read(1, 0, 17, 0), 17);
        is("below", g.read(1, 0, 17, 1), 1);
        is("above", g.read(0, 0, 0, 0), 0);
        is("below", g.read(0, 0, 0, 1), 1);
        refused(g, "no WEIGHT there", g.read(0, 0, 255, 0), 5);
        refused(g, "shade 256", g.read(0, 0, 256, 0), 2);
        refused(g, "shade -1", g.read(0, 0, -1, 0), 2);
        refused(g, "dot first", g.read(2, 0, 256, 0), 1);
        refused(g, "dot", g.read(0, -1, 0, 0), 1);
        refused(g, "what first", g.read(0, 0, 256, 2), 1);
        g.blur(0);
        is("above", g.read(0, 0, 8, 0), 765);
        is("below", g.read(0, 0, 8, 1), 109);
        g.fill(0, 1, 1, 9);
        is("the picture as it was", g.read(1, 0, 17, 0), 17);
        ShadeGrid none = painted(1, 1);
        refused(none, "no grid", none.read(0, 0, 0, 0), 1);
        none.grid(0, 0, 8, 128);
        is("of one dot", none.read(0, 0, 1, 0), 1);
        none.fill(0, 16, 12, 255);
        none.grid(0, 0, 8, 128);
        for (int n = 0; n < 9; n++) {
            none.blur(n % 3);
        }
        is("of the largest sums", none.read(7, 7, 200, 0), 255);
        is("of the largest sums", none.read(7, 7, 200, 1), 1);
        paint(none, 0, 2, 0, 1);
        none.fill(1, 2, 1, 0);
        none.grid(0, 1, 1, 8);
        none.blur(0);
        is("2 by 3", none.read(1, 0, 0, 0), 2);
        is("2 by 3", none.read(1, 0, 0, 1), 3);
        none.turn(0, 0, 3);
        none.turn(1, 1, 3);
        none.grid(0, 1, 1, 8);
        none.blur(1);
        is("2 by 3", none.read(0, 1, 0, 0), 2);
        is("2 by 3", none.read(0, 1, 0, 1), 3);
        // r 9, by 1: what comes of a 1 is 8 * 8 + 1 * 1, of a 2 it is 8 * 7 + 1 * 2, once and twice
        paint(none, 0, 2, 1, 2);
        none.grid(0, 0, 1, 9);
        none.blur(0);
        is("no divisor in common", none.read(1, 0, 1, 0), 65 + 2 * 2 * 58);
        is("no divisor in common", none.read(1, 0, 1, 1), 65 + 2 * 58);
    }

    private static void readShade() {
        ShadeGrid g = smallGrid();
        is("0", g.readShade(0, 0), 0);
        is("1", g.readShade(1, 0), 17);
        is("r 128", g.grid(0, 0, 2, 128) > 0, true);
        is("3774 by 734", g.readShade(0, 0), 5);
        is("1714960 by 214544", g.readShade(1, 0), 8);
        g.fill(0, 5, 5, 200);
        is("the guide as it was", g.readShade(1, 0), 8);
        refused(g, "x 2", g.readShade(2, 0), 1);
        refused(g, "y 1", g.readShade(0, 1), 1);
        refused(g, "x -1", g.readShade(-1, 0), 1);
        ShadeGrid none = painted(1, 1);
        refused(none, "no grid", none.readShade(0, 0), 1);
        // two dots with one guide's shade: s 1 apart, blurred once along x: 2 to 1
        paint(none, 1, 2, 0, 3);
        none.fill(2, 2, 1, 0);
        none.grid(1, 2, 1, 8);
        none.blur(0);
        is("3 by 3", none.readShade(0, 0), 1);
        is("6 by 3", none.readShade(1, 0), 2);
        // 1 * (1 + 2) by 3 where it is a half: shades 0, 1, 0: (0 + 2 + 0) by 4
        paint(none, 1, 3, 0, 1, 0);
        none.fill(2, 3, 1, 0);
        none.grid(1, 2, 1, 8);
        none.blur(0);
        is("a half, the lower", none.readShade(1, 0), 0);
    }

    private static void smooth() {
        ShadeGrid g = told("pic a ab;pic b a/b;pic c bp");
        is("r 16", g.smooth(3, 0, 0, 2, 16, 0), 0);
        is("r 128", g.smooth(3, 0, 0, 2, 128, 0), 2);
        dots(g, 3, 2, 5, 8);
        is("no grid of it", g.gridded(0), NONE);
        is("upon itself", g.smooth(0, 0, 0, 2, 128, 0), 2);
        dots(g, 0, 2, 5, 8);
        refused(g, "s 0", g.smooth(0, 0, 0, 0, 8, 0), 2);
        refused(g, "s 9", g.smooth(0, 0, 0, 9, 8, 0), 2);
        refused(g, "r 7", g.smooth(0, 0, 0, 1, 7, 0), 2);
        refused(g, "r 129", g.smooth(0, 0, 0, 1, 129, 0), 2);
        refused(g, "n 4", g.smooth(0, 0, 0, 1, 8, 4), 2);
        refused(g, "n -1", g.smooth(0, 0, 0, 1, 8, -1), 2);
        refused(g, "number first", g.smooth(0, 0, 1, 1, 8, -1), 2);
        refused(g, "not as wide", g.smooth(0, 0, 1, 1, 8, 0), 5);
        refused(g, "to first", g.smooth(6, 0, 1, 1, 8, -1), 1);
        refused(g, "of", g.smooth(0, 5, 0, 1, 8, 0), 1);
        refused(g, "guide", g.smooth(0, 0, 5, 1, 8, 0), 1);
        is("three acts", g.undo(), 2);
        dots(g, 0, 2, 0, 17);
        // by another guide of one shade, s 1, n 1: along x 2 to 1
        g.fill(4, 2, 1, 9);
        is("by a guide", g.smooth(5, 0, 4, 1, 128, 1), 2);
        dots(g, 5, 2, 6, 11);
        addUnlike(g);
        refused(g, "wider", g.smooth(0, 0, 4, 1, 8, 0), 5);
        refused(g, "higher", g.smooth(0, 0, 5, 1, 8, 0), 5);
        for (int upright = 0; upright < 2; upright++) {
            paint(g, 2, upright == 1 ? 1 : 4, 0, 0, 0, 255);
            g.turn(4, 2, 0);
            g.above(4, 4, 4);
            int wide = upright == 1 ? 1 : 4;
            g.smooth(5, 2, 4, 1, 128, 1);
            dots(g, 5, wide, 0, 0, 64, 170);
            g.smooth(5, 2, 4, 1, 128, 2);
            dots(g, 5, wide, 0, 17, 68, 139);
            g.smooth(5, 2, 4, 1, 128, 3);
            dots(g, 5, wide, 6, 27, 68, 121);
        }
        paint(g, 4, 2, 9, 9);
        is("a grid is left alone", g.grid(0, 0, 3, 9) > 0, true);
        g.smooth(5, 0, 4, 1, 128, 1);
        is("a grid is left alone", g.gridded(0), 3);
    }

    private static void box() {
        ShadeGrid g = painted(3, 1, 2, 3, 4, 5, 7);
        is("1", g.box(1, 0, 1), 6);
        // 12 by 4; 22 by 6; 17 by 4
        dots(g, 1, 3, 3, 4, 4, 3, 4, 4);
        is("a half, the lower", g.box(1, 0, 0), 0);
        paint(g, 2, 2, 0, 1);
        is("a half, the lower", g.box(2, 2, 4), 1);
        dots(g, 2, 2, 0, 0);
        refused(g, "n 5", g.box(1, 0, 5), 2);
        refused(g, "n -1", g.box(1, 0, -1), 2);
        refused(g, "to", g.box(6, 0, 9), 1);
        refused(g, "of", g.box(0, 5, 9), 1);
        ShadeGrid wide = painted(16, 160, 0, 0, 0, 0, 0, 0, 0, 0, 0, 0, 0, 0, 0, 0, 0);
        wide.box(1, 0, 4);
        is("4 to the side", wide.dot(1, 4, 0), 18);
        is("5 to the side", wide.dot(1, 5, 0), 0);
        is("an act", wide.undo() >= 0, true);
        refused(wide, "gone", wide.dot(1, 0, 0), 1);
        paint(wide, 2, 1, 0, 0, 0, 160, 0, 0);
        wide.box(2, 2, 1);
        dots(wide, 2, 1, 0, 0, 53, 53, 53, 0);
        wide.fill(3, 3, 3, 7);
        wide.fill(4, 1, 1, 7);
        is("smaller than what was there", wide.box(3, 4, 1), 0);
        dots(wide, 3, 1, 7);
    }

    private static void median() {
        ShadeGrid g = painted(3, 9, 2, 3, 4, 5, 7);
        is("1", g.median(1, 0, 1), 4);
        // 2 4 5 9; 2 3 4 5 7 9; 2 3 5 7
        dots(g, 1, 3, 4, 4, 3, 4, 4, 3);
        is("0", g.median(1, 0, 0), 0);
        paint(g, 2, 3, 5, 200, 6);
        is("an odd number", g.median(2, 2, 2), 2);
        dots(g, 2, 3, 6, 6, 6);
        paint(g, 2, 1, 5, 200, 6, 100);
        g.median(3, 2, 1);
        dots(g, 3, 1, 5, 6, 100, 6);
        refused(g, "n 5", g.median(1, 0, 5), 2);
        refused(g, "n -1", g.median(1, 0, -1), 2);
        refused(g, "to", g.median(-1, 0, 9), 1);
        refused(g, "of", g.median(0, 5, 9), 1);
    }

    private static void mix() {
        ShadeGrid g = painted(2, 0, 255);
        paint(g, 1, 2, 1, 100);
        is("50", g.mix(2, 0, 1, 50), true);
        dots(g, 2, 2, 0, 177);
        is("51", g.mix(2, 0, 1, 49), true);
        dots(g, 2, 2, 1, 176);
        is("100", g.mix(2, 0, 1, 100), true);
        dots(g, 2, 2, 0, 255);
        is("0", g.mix(0, 0, 1, 0), true);
        dots(g, 0, 2, 1, 100);
        g.fill(3, 1, 2, 0);
        refused(g, "101", g.mix(2, 0, 1, 101), 2);
        refused(g, "-1", g.mix(2, 0, 1, -1), 2);
        refused(g, "number first", g.mix(2, 0, 3, 101), 2);
        refused(g, "not as wide", g.mix(2, 0, 3, 0), 5);
        addUnlike(g);
        refused(g, "wider", g.mix(2, 0, 4, 0), 5);
        refused(g, "higher", g.mix(2, 5, 0, 0), 5);
        g.undo();
        g.undo();
        refused(g, "to", g.mix(6, 0, 3, 0), 1);
        refused(g, "one", g.mix(0, 5, 3, 101), 1);
        refused(g, "other", g.mix(0, 0, 5, 101), 1);
    }

    private static void above() {
        ShadeGrid g = painted(5, 10, 255, 0, 127, 0);
        paint(g, 1, 5, 12, 127, 129, 0, 128);
        is("held", g.above(2, 0, 1), 2);
        dots(g, 2, 5, 126, 255, 0, 255, 0);
        is("upon itself", g.above(0, 0, 0), 0);
        dots(g, 0, 5, 128, 128, 128, 128, 128);
        g.fill(3, 1, 2, 0);
        refused(g, "not as wide", g.above(0, 0, 3), 5);
        addUnlike(g);
        refused(g, "wider", g.above(2, 0, 4), 5);
        refused(g, "higher", g.above(2, 5, 0), 5);
        g.undo();
        g.undo();
        refused(g, "to", g.above(6, 0, 3), 1);
        refused(g, "of", g.above(0, 5, 0), 1);
        refused(g, "other", g.above(0, 0, 5), 1);
    }

    private static void levels() {
        ShadeGrid g = painted(6, 0, 85, 86, 170, 171, 255);
        is("3", g.levels(1, 0, 3), 4);
        dots(g, 1, 6, 0, 0, 127, 127, 255, 255);
        is("2", g.levels(1, 0, 2), 4);
        dots(g, 1, 6, 0, 0, 0, 255, 255, 255);
        paint(g, 2, 2, 200, 10);
        is("the first, too", g.levels(2, 2, 2), 2);
        dots(g, 2, 2, 255, 0);
        is("64", g.levels(0, 0, 64), 2);
        dots(g, 0, 6, 0, 85, 85, 170, 170, 255);
        refused(g, "1", g.levels(1, 0, 1), 2);
        refused(g, "65", g.levels(1, 0, 65), 2);
        refused(g, "to", g.levels(6, 0, 1), 1);
        refused(g, "of", g.levels(0, 5, 1), 1);
    }

    private static void stretch() {
        ShadeGrid g = painted(4, 10, 11, 12, 13);
        is("stretch", g.stretch(1, 0), 4);
        dots(g, 1, 4, 0, 85, 170, 255);
        is("as it is", g.stretch(1, 1), 0);
        paint(g, 2, 1, 20, 10);
        paint(g, 3, 2, 0, 1);
        is("another one", g.stretch(4, 2), 2);
        dots(g, 4, 1, 255, 0);
        is("a step of 1", g.stretch(3, 3), 1);
        dots(g, 3, 2, 0, 255);
        paint(g, 0, 3, 0, 1, 7);
        is("downwards", g.stretch(0, 0), 2);
        dots(g, 0, 3, 0, 36, 255);
        g.fill(2, 2, 2, 8);
        refused(g, "one shade", g.stretch(0, 2), 5);
        refused(g, "to first", g.stretch(6, 2), 1);
        refused(g, "of", g.stretch(0, 5), 1);
    }

    private static void larger() {
        ShadeGrid g = painted(2, 1, 2, 3, 4);
        is("2", g.larger(1, 0, 2), true);
        dots(g, 1, 4, 1, 1, 2, 2, 1, 1, 2, 2, 3, 3, 4, 4, 3, 3, 4, 4);
        g.fill(2, 4, 3, 0);
        is("4", g.larger(2, 2, 4), true);
        is("wide", g.about(2, 0), 16);
        is("high", g.about(2, 1), 12);
        g.fill(2, 5, 1, 0);
        refused(g, "too wide", g.larger(2, 2, 4), 3);
        is("by 3", g.larger(2, 2, 3), true);
        g.fill(2, 1, 5, 0);
        refused(g, "too high", g.larger(2, 2, 3), 3);
        refused(g, "number first", g.larger(2, 2, 5), 2);
        refused(g, "by 1", g.larger(2, 2, 1), 2);
        refused(g, "most", g.larger(2, 2, Integer.MAX_VALUE), 2);
        refused(g, "to", g.larger(6, 2, 5), 1);
        refused(g, "of", g.larger(0, 5, 5), 1);
    }

    private static void smaller() {
        ShadeGrid g = painted(5, 1, 2, 3, 4, 99, 3, 4, 8, 9, 99, 99, 99, 99, 99, 99);
        is("2", g.smaller(1, 0, 2), true);
        // 10 by 4 is a half: the lower; 24 by 4
        dots(g, 1, 2, 2, 6);
        is("3", g.smaller(1, 0, 3), true);
        // 1 + 2 + 3 + 3 + 4 + 8 + 297 = 318 by 9
        dots(g, 1, 1, 35);
        refused(g, "too low", g.smaller(1, 0, 4), 5);
        g.fill(2, 2, 12, 0);
        refused(g, "too narrow", g.smaller(1, 2, 3), 5);
        refused(g, "number first", g.smaller(1, 1, 5), 2);
        refused(g, "by 1", g.smaller(1, 0, 1), 2);
        refused(g, "to", g.smaller(6, 1, 5), 1);
        refused(g, "of", g.smaller(0, 5, 5), 1);
        is("upon itself", g.smaller(0, 0, 2), true);
        dots(g, 0, 2, 2, 6);
    }

    private static void rests() {
        ShadeGrid g = painted(2, 7, 7);
        is("flat", g.rests(0, 8, 128, 3), 0);
        paint(g, 0, 2, 0, 17);
        is("far in shade", g.rests(0, 2, 8, 0), 0);
        // s 1, n 0 never leaves its dot; n 1 with 0, 3 in one shade node: 1, 2 then 1, 2
        is("n 0", g.rests(0, 1, 128, 0), 0);
        paint(g, 0, 2, 0, 1);
        is("halves fall", g.rests(0, 1, 128, 1), 0);
        paint(g, 0, 2, 0, 3);
        is("once", g.rests(0, 1, 128, 1), 1);
        g.fill(1, 16, 1, 0);
        for (int x = 0; x < 16; x++) {
            g.set(1, x, 0, x * 17);
        }
        is("the most often", g.rests(1, 6, 104, 0), 19);
        for (int n = 0; n < 20; n++) {
            is("smooth by hand", g.smooth(2, n == 0 ? 1 : 2, n == 0 ? 1 : 2, 6, 104, 0) > 0, n < 19);
        }
        is("-2", g.rests(1, 6, 96, 0), -2);
        g.fill(1, 8, 1, 0);
        for (int x = 0; x < 8; x++) {
            g.set(1, x, 0, x * 8);
        }
        is("once more than can be told", g.rests(1, 1, 64, 3), -2);
        for (int n = 0; n < 21; n++) {
            is("smooth by hand", g.smooth(2, n == 0 ? 1 : 2, n == 0 ? 1 : 2, 1, 64, 3) > 0, n < 20);
        }
        is("trouble", g.trouble(), 0);
        is("nothing is changed", g.dot(1, 7, 0), 56);
        is("the grid, too", g.gridded(0), NONE);
        refused(g, "s", g.rests(0, 0, 8, 0), 2);
        refused(g, "s", g.rests(0, 9, 8, 0), 2);
        refused(g, "r", g.rests(0, 1, 7, 0), 2);
        refused(g, "r", g.rests(0, 1, 129, 0), 2);
        refused(g, "n", g.rests(0, 1, 8, 4), 2);
        refused(g, "n", g.rests(0, 1, 8, -1), 2);
        refused(g, "of", g.rests(5, 1, 8, 4), 1);
    }

    private static void edges() {
        ShadeGrid g = painted(3, 1, 2, 5, 1, 9, 5);
        // right: 1 3 8 4, down: 0 7 0
        is("0", g.edges(0, 0), 7);
        is("1", g.edges(0, 1), 5);
        is("4", g.edges(0, 4), 3);
        is("8", g.edges(0, 8), 1);
        is("9", g.edges(0, 9), 0);
        is("255", g.edges(0, 255), 0);
        refused(g, "256", g.edges(0, 256), 2);
        refused(g, "-1", g.edges(0, -1), 2);
        refused(g, "picture first", g.edges(1, -1), 1);
    }

    private static void kept() {
        ShadeGrid g = told("pic a ab;pic b a/b;pic c bp");
        // r 128, s 2: 5 and 8 of 0 and 17
        is("3", g.kept(0, 0, 2, 128, 0, 3), 1);
        is("4", g.kept(0, 0, 2, 128, 0, 4), 0);
        is("r 16", g.kept(0, 0, 2, 16, 0, 17), 1);
        is("r 16", g.kept(0, 0, 2, 16, 0, 18), 0);
        is("nothing is changed", g.dot(0, 1, 0), 17);
        // a flat one, made uneven by its guide, keeps none of what it had not
        paint(g, 3, 3, 0, 100, 100);
        g.fill(4, 3, 1, 0);
        is("new ones do not count", g.kept(3, 4, 1, 128, 1, 20), 1);
        is("all", g.kept(3, 4, 1, 128, 1, 0), 2);
        paint(g, 3, 1, 0, 100, 100);
        g.fill(4, 1, 3, 0);
        is("upright", g.kept(3, 4, 1, 128, 1, 20), 1);
        addUnlike(g);
        refused(g, "wider", g.kept(0, 4, 1, 8, 0, 0), 5);
        refused(g, "higher", g.kept(5, 0, 1, 8, 0, 0), 5);
        g.undo();
        g.undo();
        refused(g, "s", g.kept(0, 0, 0, 8, 0, 0), 2);
        refused(g, "r", g.kept(0, 0, 1, 7, 0, 0), 2);
        refused(g, "n", g.kept(0, 0, 1, 8, 4, 0), 2);
        refused(g, "t", g.kept(0, 0, 1, 8, 0, 256), 2);
        refused(g, "t", g.kept(0, 1, 1, 8, 0, -1), 2);
        refused(g, "not as wide", g.kept(0, 1, 1, 8, 0, 0), 5);
        refused(g, "of", g.kept(5, 0, 0, 8, 0, 0), 1);
        refused(g, "guide", g.kept(0, 5, 0, 8, 0, 0), 1);
    }

    private static void flat() {
        ShadeGrid g = told("pic a ab;pic b a;pic c ap");
        is("4", g.flat(0, 2, 128, 4), 0);
        is("r 8", g.flat(0, 2, 8, 255), 0);
        is("r 8", g.flat(2, 2, 8, 255), -2);
        is("trouble", g.trouble(), 0);
        is("no neighbours", g.flat(1, 1, 8, 1), 0);
        paint(g, 2, 2, 0, 3);
        is("by one", g.flat(2, 1, 128, 3), 1);
        // s 1, r 16, 0 and 16: by n 0 .. 3 they are 16, 10, 6, 4 apart (1 to 4, 16 to 36, 225 to 400)
        paint(g, 3, 2, 0, 16);
        is("t 17", g.flat(3, 1, 16, 17), 0);
        is("t 16", g.flat(3, 1, 16, 16), 1);
        is("t 10", g.flat(3, 1, 16, 10), 2);
        is("t 6", g.flat(3, 1, 16, 6), 3);
        is("t 5", g.flat(3, 1, 16, 5), 3);
        is("t 4", g.flat(3, 1, 16, 4), -2);
        is("nothing is changed", g.dot(2, 1, 0), 3);
        refused(g, "t 0", g.flat(0, 1, 8, 0), 2);
        refused(g, "t 256", g.flat(0, 1, 8, 256), 2);
        refused(g, "s", g.flat(0, 9, 8, 1), 2);
        refused(g, "r", g.flat(0, 1, 129, 1), 2);
        refused(g, "of", g.flat(5, 1, 129, 1), 1);
    }

    private static void apart() {
        ShadeGrid g = painted(3, 1, 2, 30);
        paint(g, 1, 3, 1, 12, 3);
        is("0", g.apart(0, 1, 0), 2);
        is("1", g.apart(0, 1, 1), 37);
        is("2", g.apart(0, 1, 2), 27);
        is("like", g.apart(1, 1, 2), 0);
        g.set(1, 0, 0, 2);
        is("by 1", g.apart(0, 1, 0), 3);
        addUnlike(g);
        refused(g, "wider", g.apart(0, 4, 1), 5);
        refused(g, "higher", g.apart(5, 0, 1), 5);
        g.undo();
        g.undo();
        g.fill(2, 1, 3, 0);
        refused(g, "what first", g.apart(0, 2, 3), 1);
        refused(g, "what", g.apart(0, 1, -1), 1);
        refused(g, "not as wide", g.apart(0, 2, 0), 5);
        refused(g, "p", g.apart(5, 2, 0), 1);
        refused(g, "q", g.apart(0, 5, 0), 1);
    }

    /** A ring of 9 round a 5 with a 7 in the corner: 9 9 7 / 9 5 9 / 9 9 9. */
    private static ShadeGrid ring() {
        return painted(3, 9, 9, 7, 9, 5, 9, 9, 9, 9);
    }

    private static void regions() {
        ShadeGrid g = ring();
        is("0", g.regions(0, 0), 3);
        is("1", g.regions(0, 1), 3);
        is("2", g.regions(0, 2), 2);
        is("4", g.regions(0, 4), 1);
        is("255", g.regions(0, 255), 1);
        g.fill(1, 16, 12, 3);
        is("large", g.regions(1, 0), 1);
        paint(g, 2, 3, 1, 9, 1, 9, 1, 9);
        is("corners do not touch", g.regions(2, 7), 6);
        paint(g, 3, 5,
                9, 9, 9, 9, 1,
                1, 1, 1, 9, 1,
                9, 9, 9, 9, 1,
                9, 1, 1, 1, 1,
                9, 9, 9, 9, 9);
        is("round corners", g.regions(3, 0), 3);
        is("round corners", g.region(3, 0, 0, 2), 4 + 1 + 4 + 1 + 5);
        is("round corners", g.region(3, 0, 1, 2), 7);
        paint(g, 3, 3, 1, 9, 1, 1, 1, 9);
        is("down, left and up", g.regions(3, 0), 4);
        paint(g, 3, 3, 2, 1, 2, 1, 1, 2);
        is("to the left", g.regionAt(3, 0, 0, 1), 1);
        paint(g, 3, 3, 1, 9, 2, 1, 9, 1, 1, 1, 1);
        is("up on the right", g.regionAt(3, 0, 2, 1), 0);
        refused(g, "256", g.regions(0, 256), 2);
        refused(g, "-1", g.regions(0, -1), 2);
        refused(g, "picture first", g.regions(5, -1), 1);
    }

    private static void region() {
        ShadeGrid g = ring();
        int[][] due = {{0, 0, 7, 9, 9}, {2, 0, 1, 7, 7}, {1, 1, 1, 5, 5}};
        for (int i = 0; i < 3; i++) {
            for (int what = 0; what < 5; what++) {
                is("region " + i + ", " + what, g.region(0, 0, i, what), due[i][what]);
            }
        }
        is("with a step of 2", g.region(0, 2, 0, 2), 8);
        is("with a step of 2", g.region(0, 2, 0, 3), 7);
        is("with a step of 2", g.region(0, 2, 0, 4), 9);
        refused(g, "no such", g.region(0, 2, 2, 0), 1);
        refused(g, "no such", g.region(0, 2, -1, 0), 1);
        refused(g, "number ahead of no such", g.region(0, 256, 99, 0), 2);
        refused(g, "what ahead of the number", g.region(0, 256, 0, 5), 1);
        refused(g, "what", g.region(0, 0, 0, -1), 1);
        refused(g, "picture", g.region(1, 256, 0, 0), 1);
    }

    private static void regionAt() {
        ShadeGrid g = ring();
        int[] due = {0, 0, 1, 0, 2, 0, 0, 0, 0};
        for (int d = 0; d < 9; d++) {
            is("regionAt " + d, g.regionAt(0, 0, d % 3, d / 3), due[d]);
        }
        is("with a step of 2", g.regionAt(0, 2, 1, 1), 1);
        refused(g, "dot first", g.regionAt(0, 256, 3, 0), 1);
        refused(g, "t", g.regionAt(0, 256, 0, 0), 2);
        refused(g, "t", g.regionAt(0, -1, 0, 0), 2);
        refused(g, "picture", g.regionAt(1, 0, 0, 0), 1);
    }

    private static void steep() {
        ShadeGrid g = painted(3, 1, 2, 5, 1, 9, 5);
        is("0", g.steep(0, 0), 23);
        is("1", g.steep(0, 1), 16);
        is("2", g.steep(0, 2), 7);
        refused(g, "3", g.steep(0, 3), 1);
        refused(g, "-1", g.steep(0, -1), 1);
        refused(g, "picture", g.steep(1, 0), 1);
    }

    private static void ranked() {
        ShadeGrid g = painted(3, 9, 2, 5, 2, 255, 0);
        int[] due = {0, 2, 2, 5, 9, 255};
        for (int i = 0; i < 6; i++) {
            is("ranked " + i, g.ranked(0, i), due[i]);
        }
        refused(g, "6", g.ranked(0, 6), 1);
        refused(g, "-1", g.ranked(0, -1), 1);
        refused(g, "picture", g.ranked(1, 0), 1);
    }

    private static void line() {
        ShadeGrid g = painted(3, 1, 2, 3, 40, 50, 60);
        is("row", g.line(0, 0, 0), 6);
        is("row", g.line(0, 0, 1), 150);
        is("column", g.line(0, 1, 0), 41);
        is("column", g.line(0, 1, 2), 63);
        paint(g, 1, 1, 3, 4);
        is("a narrow row", g.line(1, 0, 1), 4);
        paint(g, 1, 2, 3, 4);
        is("a low column", g.line(1, 1, 1), 4);
        refused(g, "row 2", g.line(0, 0, 2), 1);
        refused(g, "row -1", g.line(0, 0, -1), 1);
        refused(g, "column 3", g.line(0, 1, 3), 1);
        refused(g, "kind 2", g.line(0, 2, 0), 1);
        refused(g, "kind -1", g.line(0, -1, 0), 1);
        refused(g, "picture", g.line(2, 0, 0), 1);
    }

    private static void pairs() {
        ShadeGrid g = painted(3, 1, 2, 1, 2, 2, 1);
        // 12 12 22 12, 12 22 11
        is("pairs", g.pairs(0), 3);
        is("none", painted(1, 5).pairs(0), 0);
        refused(g, "picture", g.pairs(1), 1);
        g.fill(1, 16, 12, 255);
        is("one", g.pairs(1), 1);
    }

    private static void pair() {
        ShadeGrid g = painted(3, 1, 2, 1, 2, 2, 1);
        is("first", g.pair(0, 0), 1);
        is("second", g.pair(0, 1), 2);
        is("how often", g.pair(0, 2), 4);
        paint(g, 1, 4, 9, 3, 3, 8);
        // 39 33 38, once each
        is("the lesser second", g.pair(1, 0), 3);
        is("the lesser second", g.pair(1, 1), 3);
        paint(g, 1, 3, 9, 4, 200);
        is("the lesser second", g.pair(1, 1), 9);
        paint(g, 1, 3, 9, 200, 4);
        is("the lesser first", g.pair(1, 0), 4);
        is("the lesser first", g.pair(1, 1), 200);
        g.fill(2, 1, 1, 5);
        is("no neighbours", g.pair(2, 2), -2);
        is("trouble", g.trouble(), 0);
        refused(g, "what first", g.pair(2, 3), 1);
        refused(g, "what", g.pair(0, -1), 1);
        refused(g, "picture", g.pair(5, 0), 1);
        g.fill(1, 16, 12, 255);
        is("all", g.pair(1, 2), 356);
    }

    private static void undo() {
        ShadeGrid g = new ShadeGrid();
        for (int n = 0; n < 13; n++) {
            g.fill(n % 3, 1, 1, n);
        }
        for (int n = 9; n >= 0; n--) {
            is("undo", g.undo(), n);
        }
        refused(g, "undo", g.undo(), 5);
        is("the eleventh stays", g.dot(0, 0, 0), 0);
        is("the eleventh stays", g.dot(1, 0, 0), 1);
        is("the eleventh stays", g.dot(2, 0, 0), 2);
        g.fill(0, 2, 2, 9);
        g.fill(0, 0, 0, 0);
        g.fill(5, 1, 1, 1);
        is("undo", g.undo(), 1);
        refused(g, "none again", g.about(5, 0), 1);
        g.set(0, 1, 1, 3);
        is("undo", g.undo(), 1);
        is("undone", g.dot(0, 1, 1), 9);
        is("undo", g.undo(), 0);
        is("undone", g.about(0, 0), 1);
        tell(g, "pic a a");
        refused(g, "a text leaves none", g.undo(), 5);
    }

    private static void actsOf() {
        ShadeGrid g = painted(4, 1, 200, 3, 4, 5, 6, 7, 8);
        for (int n = 0; n < 10; n++) {
            g.undo();
        }
        refused(g, "none left", g.undo(), 5);
        paint(g, 0, 2, 1, 200);
        tell(g, "pic a ab/cd/ef");
        int n = 0;
        g.noise(0, 1, 1);
        g.turn(1, 0, 0);
        g.part(1, 0, 0, 0, 2, 2);
        g.smooth(1, 0, 0, 1, 8, 0);
        g.box(1, 0, 0);
        g.median(1, 0, 0);
        g.mix(1, 0, 0, 0);
        is("seven", g.undo(), 6);
        g.above(1, 0, 0);
        g.levels(1, 0, 2);
        g.stretch(1, 0);
        g.larger(1, 0, 2);
        is("ten", g.undo(), 9);
        g.smaller(1, 0, 2);
        is("ten", g.undo(), 9);
        while (g.undo() > 0) {
            n++;
        }
        is("nine more", n, 8);
        refused(g, "none again", g.about(1, 0), 1);
        dots(g, 0, 2, 0, 17, 34, 51, 68, 85);
    }

    /** Every call that makes a picture, with one that has all dots there can be. */
    private static void allDots() {
        ShadeGrid g = new ShadeGrid();
        g.fill(0, 16, 12, 100);
        is("set", g.set(0, 15, 11, 101), 100);
        is("noise", g.noise(0, 7, 0), 0);
        is("turn", g.turn(1, 0, 4), true);
        is("turn", g.dot(1, 15, 11), 154);
        is("part", g.part(1, 0, 0, 0, 16, 12), true);
        is("smooth", g.smooth(2, 1, 0, 1, 8, 0), 0);
        is("box", g.box(2, 0, 4), 1);
        is("median", g.median(2, 0, 4), 1);
        is("mix", g.mix(2, 0, 1, 30), true);
        is("mix", g.dot(2, 15, 11), 101);
        is("above", g.above(2, 0, 1), 0);
        is("levels", g.levels(2, 0, 2), 192);
        is("stretch", g.stretch(2, 0), 192);
        is("stretch", g.about(2, 4), 255);
        is("apart", g.apart(0, 2, 1), 191 * 100 + 154);
        is("regions", g.regions(0, 0), 2);
        is("edges", g.edges(0, 1), 2);
        is("steep", g.steep(0, 0), 2);
        is("ranked", g.ranked(0, 191), 101);
        is("line", g.line(0, 1, 15), 1201);
        is("pair", g.pair(0, 2), 354);
        is("kept", g.kept(0, 0, 1, 8, 0, 1), 2);
        is("rests", g.rests(0, 1, 8, 0), 0);
        is("flat", g.flat(0, 1, 8, 2), 0);
        is("grid", g.grid(0, 0, 1, 8), 192 * 2);
        is("readShade", g.readShade(15, 11), 101);
        is("smaller", g.smaller(0, 0, 4), true);
        is("larger", g.larger(0, 0, 4), true);
        is("write", g.write(0), 203);
    }

    private static void write() {
        ShadeGrid g = painted(3, 0, 8, 9, 25, 26, 255);
        is("write", g.write(0), 7);
        String due = "aab/bcp";
        for (int k = 0; k < 7; k++) {
            is("octet " + k, g.octet(k), due.charAt(k));
        }
        refused(g, "picture", g.write(1), 1);
        is("what was written stays", g.octet(6), 'p');
        g.fill(1, 16, 12, 255);
        is("large", g.write(1), 203);
        is("large", g.octet(202), 'p');
        is("large", g.octet(203), NONE);
        g.fill(1, 1, 1, 255);
        is("small", g.write(1), 1);
        is("small", g.octet(1), NONE);
    }

    private static void octet() {
        ShadeGrid g = painted(1, 17, 34);
        is("none yet", g.octet(0), NONE);
        g.write(0);
        is("0", g.octet(0), 'b');
        is("1", g.octet(1), '/');
        is("2", g.octet(2), 'c');
        g.dot(9, 9, 9);
        is("3", g.octet(3), NONE);
        is("-1", g.octet(-1), NONE);
        is("least", g.octet(Integer.MIN_VALUE), NONE);
        is("most", g.octet(Integer.MAX_VALUE), NONE);
        is("trouble stays", g.trouble(), 1);
    }

    private static void letter() {
        is("no such letter", noLetter(new ShadeGrid(), 0, 0), true);
        ShadeGrid g = told("pic az a;pic abcdefghijklmnop a");
        is("0, 0", g.letter(0, 0), 0);
        is("0, 1", g.letter(0, 1), 25);
        is("1, 15", g.letter(1, 15), 15);
        is("no such letter", noLetter(g, 0, 2), true);
        is("no such letter", noLetter(g, 0, -1), true);
        is("no such letter", noLetter(g, 1, 16), true);
        is("no such letter", noLetter(g, 2, 0), true);
        is("no such letter", noLetter(g, -1, 0), true);
        is("no such letter", noLetter(g, Integer.MAX_VALUE, Integer.MAX_VALUE), true);
        g.fill(2, 1, 1, 0);
        g.dot(9, 9, 9);
        is("no such letter", noLetter(g, 2, 0), true);
        is("trouble stays", g.trouble(), 1);
        tell(g, "pic b a");
        is("of the new text", g.letter(0, 0), 1);
        is("no such letter", noLetter(g, 1, 0), true);
    }

    private static void bytes() {
        ShadeGrid g = new ShadeGrid();
        is("0", g.bytes(), 0);
        g.feed(0, 0, 0, 0, 0);
        is("20", g.bytes(), 20);
        g.text(21);
        is("refused by 2", g.bytes(), 20);
        g.text(5);
        is("refused by 4", g.bytes(), 0);
    }

    private static void trouble() {
        ShadeGrid g = new ShadeGrid();
        is("at first", g.trouble(), 0);
        g.dot(0, 0, 0);
        is("1", g.trouble(), 1);
        g.fill(0, 0, 0, 0);
        is("2", g.trouble(), 2);
        g.fill(0, 16, 12, 0);
        is("0", g.trouble(), 0);
        g.turn(1, 0, 3);
        is("3", g.trouble(), 3);
        g.text(0);
        is("4", g.trouble(), 4);
        g.stretch(0, 0);
        is("5", g.trouble(), 5);
        g.bytes();
        g.fault();
        g.where();
        g.octet(0);
        is("no such letter", noLetter(g, 0, 0), true);
        g.feed(0, 0, 0, 0, 0);
        is("those that are never refused leave it", g.trouble(), 5);
        g.undo();
        is("0", g.trouble(), 0);
    }

    public static void main(String[] args) {
        Runnable[] all = {
            PromisesTest::newObject, PromisesTest::feed, PromisesTest::text, PromisesTest::fault, PromisesTest::where,
            PromisesTest::about, PromisesTest::dot, PromisesTest::often, PromisesTest::set, PromisesTest::fill,
            PromisesTest::turn, PromisesTest::part, PromisesTest::noise, PromisesTest::grid, PromisesTest::gridded,
            PromisesTest::node, PromisesTest::nth, PromisesTest::total, PromisesTest::blur, PromisesTest::read,
            PromisesTest::readShade, PromisesTest::smooth, PromisesTest::box, PromisesTest::median, PromisesTest::mix,
            PromisesTest::above, PromisesTest::levels, PromisesTest::stretch, PromisesTest::larger,
            PromisesTest::smaller, PromisesTest::rests, PromisesTest::edges, PromisesTest::kept, PromisesTest::flat,
            PromisesTest::apart, PromisesTest::regions, PromisesTest::region, PromisesTest::regionAt,
            PromisesTest::steep, PromisesTest::ranked, PromisesTest::line, PromisesTest::pairs, PromisesTest::pair,
            PromisesTest::undo, PromisesTest::write, PromisesTest::octet, PromisesTest::letter, PromisesTest::bytes,
            PromisesTest::trouble,
        };
        for (int n = 0; n < all.length; n++) {
            at("promise " + (n + 1));
            all[n].run();
        }
        at("promise 44");
        actsOf();
        at("a picture of all dots");
        allDots();
        end("all promises hold");
    }
}
