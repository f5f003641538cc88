import java.util.LinkedHashMap;
import java.util.Map;

/** The boundary cases of "Terms" III: ACTS, TROUBLE; and of the constants. */
final class ActBoundaries extends Boundaries {
    /** Every call that is an ACT, upon picture 4 of full(). */
    private static final Map<String, Call> ACTS = new LinkedHashMap<>();
    /** Every call that may be refused and is no ACT: one that is not refused. */
    private static final Map<String, Call> ASKED = new LinkedHashMap<>();
    /** Calls of which no number is told. */
    private static final Map<String, Call> FREE = new LinkedHashMap<>();

    static {
        ACTS.put("set", g -> g.set(4, 2, 1, 9));
        ACTS.put("fill", g -> yes(g.fill(4, 2, 1, 9)));
        ACTS.put("turn", g -> yes(g.turn(4, 0, 1)));
        ACTS.put("part", g -> yes(g.part(4, 0, 1, 1, 2, 1)));
        ACTS.put("noise", g -> g.noise(4, 1, 9));
        ACTS.put("smooth", g -> g.smooth(4, 0, 0, 2, 60, 1));
        ACTS.put("box", g -> g.box(4, 0, 1));
        ACTS.put("median", g -> g.median(4, 0, 1));
        ACTS.put("mix", g -> yes(g.mix(4, 0, 4, 30)));
        ACTS.put("above", g -> g.above(4, 0, 4));
        ACTS.put("levels", g -> g.levels(4, 0, 2));
        ACTS.put("stretch", g -> g.stretch(4, 0));
        ACTS.put("larger", g -> yes(g.larger(4, 0, 2)));
        ACTS.put("smaller", g -> yes(g.smaller(4, 1, 2)));

        ASKED.put("about", g -> g.about(4, 4));
        ASKED.put("dot", g -> g.dot(4, 0, 0));
        ASKED.put("often", g -> g.often(4, 255));
        ASKED.put("gridded", g -> g.gridded(0));
        ASKED.put("node", g -> g.node(0, 0, 0, 0));
        ASKED.put("nth", g -> g.nth(0, 2));
        ASKED.put("nth, not so many", g -> g.nth(MOST, 2));
        ASKED.put("total", g -> g.total(0));
        ASKED.put("read", g -> g.read(0, 0, 255, 1));
        ASKED.put("readShade", g -> g.readShade(0, 0));
        ASKED.put("rests", g -> g.rests(4, 1, 8, 1));
        ASKED.put("edges", g -> g.edges(4, 1));
        ASKED.put("kept", g -> g.kept(4, 0, 1, 8, 1, 1));
        ASKED.put("flat", g -> g.flat(4, 1, 8, 1));
        ASKED.put("apart", g -> g.apart(0, 4, 1));
        ASKED.put("regions", g -> g.regions(4, 1));
        ASKED.put("region", g -> g.region(4, 1, 0, 2));
        ASKED.put("regionAt", g -> g.regionAt(4, 1, 2, 1));
        ASKED.put("steep", g -> g.steep(4, 0));
        ASKED.put("ranked", g -> g.ranked(4, 0));
        ASKED.put("line", g -> g.line(4, 0, 0));
        ASKED.put("pairs", g -> g.pairs(4));
        ASKED.put("pair", g -> g.pair(4, 0));
        ASKED.put("pair, no neighbours", g -> g.pair(3, 0));

        FREE.put("feed", g -> g.feed(0x20202020, 0x20202020, 0x20202020, 0x20202020, 0x20202020));
        FREE.put("fault", g -> g.fault());
        FREE.put("where", g -> g.where());
        FREE.put("octet", g -> g.octet(0));
        FREE.put("octet, none", g -> g.octet(-1));
        FREE.put("letter", g -> g.letter(0, 0));
        FREE.put("letter, none", g -> yes(noLetter(g, -1, 0)));
        FREE.put("bytes", g -> g.bytes());
        FREE.put("trouble", g -> g.trouble());
    }

    private ActBoundaries() {
    }

    static void all() {
        of(Document.TERMS);
        acts();
        grids();
        troubles();
        constants();
    }

    private static ShadeGrid tenActs() {
        ShadeGrid g = full();
        for (int n = 0; n < 6; n++) {
            g.fill(5, 1, 1, n);
        }
        return g;
    }

    private static void acts() {
        says("III. ACTS (those calls that say so) make or change a PICTURE (one there was is gone)", () -> {
            ACTS.forEach((name, act) -> {
                ShadeGrid g = full();
                act.on(g);
                is(name + " trouble()", g.trouble(), 0);
                is(name + " changes it", g.about(4, 4) != 1275, true);
                is(name + " can be undone", g.undo(), 4);
                dots(g, 4, 3, 255, 238, 221, 204, 187, 170);
            });
            ASKED.forEach((name, call) -> {
                ShadeGrid g = full();
                call.on(g);
                if (!stateOf(g).equals(stateOf(full()))) {
                    fails(name + " changes something");
                }
            });
            ShadeGrid g = full();
            g.fill(2, 1, 1, 3);
            is("one there was is gone", g.dot(2, 1, 0), NONE);
            is("one there was is gone", g.line(2, 1, 15), NONE);
        });
        says("the latest 10 that weren't refused can be undone, the latest first", () -> {
            is("10", tenActs().undo(), 9);
            ACTS.forEach((name, act) -> {
                ShadeGrid g = tenActs();
                act.on(g);
                is(name + ", the eleventh", g.undo(), 9);
                is(name + ", the tenth ahead of it", g.undo(), 8);
                is(name + ", the tenth ahead of it", g.dot(5, 0, 0), 4);
            });
            ShadeGrid g = tenActs();
            for (int n = 0; n < 5; n++) {
                g.fill(6, 1, 1, 1);
                g.set(5, 1, 0, 1);
                g.stretch(5, 5);
            }
            is("refused ones do not count", g.undo(), 9);
            is("refused ones do not count", g.dot(5, 0, 0), 4);
            g = new ShadeGrid();
            for (int n = 0; n < 500; n++) {
                g.fill(0, 1, 1, n % 256);
            }
            for (int left = 9; left >= 0; left--) {
                is("of 500", g.undo(), left);
            }
            is("of 500 the 490th stays", g.dot(0, 0, 0), 489 - 256);
            is("none more", g.undo(), NONE);
        });
        says("(a TEXT leaves none).", () -> {
            ShadeGrid g = tenActs();
            g.text(13);
            is("none", g.undo(), NONE);
            is("none", g.trouble(), 5);
            is("acts behind it", g.fill(0, 1, 1, 3) && g.undo() == 0, true);
            dots(g, 0, 2, 102, 119, 136, 153);
            g = tenActs();
            g.text(21);
            is("refused by 2 it leaves them", g.undo(), 9);
            g = tenActs();
            g.text(0);
            is("refused by 4 it leaves them", g.undo(), 9);
        });
    }

    /** All that THE GRID of full() tells, behind a call. */
    private static void gridStays(String name, ShadeGrid g) {
        ShadeGrid was = full();
        for (int what = 0; what < 6; what++) {
            is("gridded behind " + name, g.gridded(what), was.gridded(what));
        }
        is("total behind " + name, g.total(1), was.total(1));
        for (int x = 0; x < 3; x++) {
            is("read behind " + name, g.readShade(x, 1), was.readShade(x, 1));
        }
    }

    private static void grids() {
        says("THE GRID stays as it is till the next grid(), text().", () -> {
            ACTS.forEach((name, act) -> {
                ShadeGrid g = full();
                act.on(g);
                gridStays(name, g);
                g.undo();
                gridStays("undo", g);
            });
            ShadeGrid g = full();
            g.fill(0, 16, 12, 0);
            g.fill(4, 1, 1, 0);
            gridStays("both pictures are others", g);
            g.text(21);
            gridStays("a text refused by 2", g);
            g.text(0);
            gridStays("a text refused by 4", g);
            g.grid(0, 4, 1, 8);
            gridStays("a refused grid", g);
            g.grid(0, 0, 8, 128);
            is("the next one", g.gridded(0), 8);
            is("the next one", g.gridded(2), 0);
            tell(g, "pic a a");
            is("behind a text", g.gridded(0), NONE);
        });
    }

    private static void troubles() {
        says("TROUBLE of the latest call that may be refused (those of which a number is told here)", () -> {
            FREE.forEach((name, call) -> {
                ShadeGrid g = full();
                g.dot(9, 9, 9);
                call.on(g);
                is(name + " leaves 1", g.trouble(), 1);
                g.text(0);
                int place = g.where();
                call.on(g);
                is(name + " leaves 4", g.trouble(), 4);
                is(name + " leaves where()", g.where(), place);
                g.dot(0, 0, 0);
                call.on(g);
                is(name + " leaves 0", g.trouble(), 0);
            });
        });
        says("0 it wasn't", () -> {
            is("a new object", new ShadeGrid().trouble(), 0);
            ACTS.forEach(ActBoundaries::takesAwayTrouble);
            ASKED.forEach(ActBoundaries::takesAwayTrouble);
            takesAwayTrouble("write", g -> g.write(4));
            takesAwayTrouble("grid", g -> g.grid(0, 4, 1, 8));
            takesAwayTrouble("blur", g -> g.blur(1));
            takesAwayTrouble("undo", g -> g.undo());
            ShadeGrid g = full();
            g.dot(9, 9, 9);
            g.text(13);
            is("text", g.trouble(), 0);
        });
        says("1 there is none such (no PICTURE, dot, GRID, what)", () -> {
            refuses(1, g -> g.dot(NO_PICTURE, 0, 0));
            refuses(1, g -> g.dot(0, 3, 0));
            refuses(1, ShadeGrid::new, g -> g.total(0));
            refuses(1, g -> g.about(0, 6));
        });
        says("2 a number", () -> refuses(2, g -> g.often(0, 256)));
        says("3 no room", () -> refuses(3, g -> yes(g.larger(0, 2, 2))));
        says("4 a FAULT", () -> {
            ShadeGrid g = full();
            g.text(1);
            is("trouble()", g.trouble(), 4);
        });
        says("5 not so.", () -> refuses(5, g -> g.stretch(0, 3)));
        says("Of several the one that the call tells first.", () -> {
            refuses(1, g -> yes(g.mix(6, 0, 1, 101)));
            refuses(2, g -> yes(g.mix(5, 0, 1, 101)));
            refuses(5, g -> yes(g.mix(5, 0, 1, 100)));
            refuses(1, g -> yes(g.larger(6, 2, 5)));
            refuses(2, g -> yes(g.larger(5, 2, 5)));
            refuses(3, g -> yes(g.larger(5, 2, 4)));
            refuses(1, g -> g.region(0, 256, 99, 5));
            refuses(2, g -> g.region(0, 256, 99, 4));
            refuses(1, g -> g.region(0, 255, 99, 4));
            refuses(1, g -> g.read(3, 0, 256, 0));
            refuses(2, g -> g.read(0, 0, 256, 0));
            refuses(5, g -> g.read(0, 0, 0, 0));
        });
        says("What is refused changes nothing but trouble(), where()", () -> {
            // refuses() looks at all that an object tells; here where() goes, too
            ShadeGrid g = full();
            g.text(0);
            is("where()", g.where(), 0);
            g.often(0, 256);
            is("where() behind another one refused", g.where(), NONE);
            is("trouble()", g.trouble(), 2);
        });
        says("by 4 THE TAPE (empty then), fault().", () -> {
            String[] texts = {"", "pic z a;pic y q", "pic z a;pic z a", "pic a a;pic b a;pic c a;pic d a;pic"};
            for (int fault = 1; fault <= 4; fault++) {
                ShadeGrid g = full();
                g.text(13);
                g.fill(1, 1, 1, 3);
                g.grid(0, 0, 1, 8);
                tell(g, texts[fault - 1]);
                is("trouble()", g.trouble(), 4);
                is("fault()", g.fault(), fault);
                is("bytes()", g.bytes(), 0);
                dots(g, 0, 2, 102, 119, 136, 153);
                dots(g, 1, 1, 3);
                is("no other picture", g.about(2, 0), NONE);
                is("the grid", g.gridded(0), 1);
                is("a name", g.letter(0, 2), 'w' - 'a');
                is("no other name", noLetter(g, 1, 0), true);
                is("what was written", g.octet(0), 'p');
                is("an act", g.undo(), 0);
            }
        });
    }

    private static void constants() {
        says("The constants: `NONE = -1`: There is none; refused.", () -> {
            is("NONE", ShadeGrid.NONE, -1);
            is("refused", full().dot(6, 0, 0), ShadeGrid.NONE);
            is("there is none", new ShadeGrid().octet(0), ShadeGrid.NONE);
        });
    }

    private static void takesAwayTrouble(String name, Call call) {
        ShadeGrid g = full();
        g.text(0);
        call.on(g);
        is(name + ": trouble()", g.trouble(), 0);
        is(name + ": where()", g.where(), NONE);
    }
}
