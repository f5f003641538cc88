/** The boundary cases of promises 1 to 5 and 45 to 49: texts, and what is told. */
final class TextBoundaries extends Boundaries {
    private TextBoundaries() {
    }

    static void all() {
        newObject();
        feed();
        text();
        fault();
        where();
        write();
        octet();
        letter();
        bytes();
        trouble();
    }

    private static void newObject() {
        of(1);
        says("No PICTURES.", () -> {
            for (int p = -1; p <= 6; p++) {
                int place = p;
                refuses(1, ShadeGrid::new, g -> g.about(place, 0));
                refuses(1, ShadeGrid::new, g -> g.write(place));
                is("no letter", noLetter(new ShadeGrid(), p, 0), true);
            }
            refuses(5, ShadeGrid::new, ShadeGrid::undo);
            refuses(1, ShadeGrid::new, g -> g.gridded(0));
            ShadeGrid other = full();
            is("one beside another", new ShadeGrid().about(0, 0), NONE);
            is("one beside another", other.about(0, 0), 3);
        });
    }

    private static void feed() {
        of(2);
        says("Twenty bytes come behind THE TAPE, of each number the highest first", () -> {
            ShadeGrid g = new ShadeGrid();
            g.feed(0x20202020, 0x20202020, 0x20202020, 0x20202020, 0x20202070);
            g.feed(0x69632061, 0x20626364, 0x80000000, LEAST, -1);
            is("what stands over two feeds", g.text(28), 1);
            dots(g, 0, 3, 17, 34, 51);
            g.feed(0x70696320, 0x61206200, MOST, -1, 0);
            is("a byte of 0", g.text(20), NONE);
            is("a byte of 0", g.where(), 7);
            g.feed(0x70696320, 0x61206220, 0x2020ff20, -1, 0);
            is("a byte of 255", g.text(20), NONE);
            is("a byte of 255", g.where(), 10);
        });
        says("how many it has", () -> {
            ShadeGrid g = new ShadeGrid();
            for (int n = 1; n <= 35; n++) {
                is("feed " + n, g.feed(LEAST, -1, 0, 1, MOST), 20 * n);
            }
        });
        says("NONE, and none comes, if there would be more than 700", () -> {
            ShadeGrid g = new ShadeGrid();
            feedAll(g, " ".repeat(680) + "pic a b");
            is("the 36th", feedAll(g, "pic c d;pic e f"), NONE);
            is("bytes()", g.bytes(), 700);
            is("and again", g.feed(0, 0, 0, 0, 0), NONE);
            is("what stood there", g.text(700), 1);
            is("what stood there", g.dot(0, 0, 0), 17);
            is("the tape has room again", g.feed(0, 0, 0, 0, 0), 20);
        });
        says("(trouble() stays)", () -> {
            ShadeGrid g = new ShadeGrid();
            feedAll(g, " ".repeat(700));
            is("0", g.feed(0, 0, 0, 0, 0), NONE);
            is("0", g.trouble(), 0);
            g.dot(0, 0, 0);
            is("1", g.feed(0, 0, 0, 0, 0), NONE);
            is("1", g.trouble(), 1);
            g.text(700);
            feedAll(g, " ".repeat(700));
            is("4", g.feed(0, 0, 0, 0, 0), NONE);
            is("4", g.trouble(), 4);
            is("where()", g.where(), 700);
        });
    }

    private static void text() {
        of(3);
        says("The first n bytes of THE TAPE", () -> {
            ShadeGrid g = new ShadeGrid();
            feedAll(g, "pic a b/c;pic d e!!!");
            is("a part", g.text(9), 1);
            dots(g, 0, 1, 17, 34);
            feedAll(g, "pic a b/c;pic d e!!!");
            is("all but the last three", g.text(17), 2);
            feedAll(g, "pic a b/c;pic d e!!!");
            is("a word cut off", g.text(12), NONE);
            is("a word cut off", g.where(), 10);
            feedAll(g, " ".repeat(20));
            is("none of them", g.text(0), NONE);
            is("none of them", g.where(), 0);
            feedAll(g, " ".repeat(20));
            is("one of them", g.text(1), NONE);
            is("one of them", g.where(), 1);
        });
        says("(it is empty then)", () -> {
            ShadeGrid g = new ShadeGrid();
            feedAll(g, "pic a b;pic c d");
            g.text(7);
            is("bytes()", g.bytes(), 0);
            is("what was behind is gone", tell(g, "pic e f"), 1);
            refuses(2, () -> told("pic a b"), o -> o.text(1));
        });
        says("are THE TEXT: its PICTURES are there, others are gone, no GRID", () -> {
            ShadeGrid g = full();
            g.text(13);
            dots(g, 0, 2, 102, 119, 136, 153);
            for (int p = 1; p < 6; p++) {
                is("gone", g.about(p, 0), NONE);
            }
            is("no grid", g.gridded(0), NONE);
            is("no grid", g.readShade(0, 0), NONE);
            is("no grid", g.nth(0, 0), NONE);
            is("no grid", g.trouble(), 1);
        });
        says("how many", () -> {
            is("one", tell(new ShadeGrid(), "pic a a"), 1);
            is("four", tell(new ShadeGrid(), "pic a a;pic b a;pic c a;pic d a"), 4);
        });
        says("NONE: 2 (n); 4.", () -> {
            for (int n : new int[] {LEAST, -1, 21, MOST}) {
                refuses(2, g -> g.text(n));
            }
            for (int n : new int[] {LEAST, -1, 1, MOST}) {
                refuses(2, ShadeGrid::new, g -> g.text(n));
            }
            ShadeGrid g = full();
            is("0", g.text(0), NONE);
            is("0", g.trouble(), 4);
            g = full();
            is("all of 20", g.text(20), 1);
            is("0 of none", new ShadeGrid().text(0), NONE);
        });
    }

    private static void fault() {
        of(4);
        says("The FAULT of the latest text() not refused by 2", () -> {
            ShadeGrid g = new ShadeGrid();
            tell(g, "pic a q");
            is("2", g.fault(), 2);
            g.text(1);
            is("behind one refused by 2", g.fault(), 2);
            g.text(-1);
            g.fill(0, 1, 1, 1);
            g.undo();
            is("behind other calls", g.fault(), 2);
            tell(g, "pic a a;pic a a");
            is("3", g.fault(), 3);
            g.text(0);
            is("1", g.fault(), 1);
            tell(g, "pic a a;pic b a;pic c a;pic d a;pic");
            is("4", g.fault(), 4);
        });
        says("0 without one, ahead of any.", () -> {
            ShadeGrid g = new ShadeGrid();
            is("ahead of any", g.fault(), 0);
            g.text(1);
            is("ahead of any but one refused by 2", g.fault(), 0);
            g.text(0);
            tell(g, "pic a a");
            is("without one", g.fault(), 0);
        });
    }

    private static void where() {
        of(5);
        says("Its place, if the latest call that may be refused was by 4", () -> {
            ShadeGrid g = full();
            g.text(0);
            is("the least", g.where(), 0);
            is("again", g.where(), 0);
            feedAll(g, " ".repeat(700));
            g.text(700);
            is("the greatest", g.where(), 700);
            g.feed(1, 2, 3, 4, 5);
            g.fault();
            g.octet(0);
            g.octet(-1);
            g.letter(0, 0);
            is("no letter", noLetter(g, 0, -1), true);
            g.bytes();
            g.trouble();
            is("behind calls that are never refused", g.where(), 700);
        });
        says("NONE else.", () -> {
            ShadeGrid g = new ShadeGrid();
            is("ahead of any", g.where(), NONE);
            g.text(0);
            g.text(1);
            is("behind one refused by 2", g.where(), NONE);
            g.text(0);
            g.dot(0, 0, 0);
            is("behind one refused by 1", g.where(), NONE);
            g.text(0);
            g.undo();
            is("behind one refused by 5", g.where(), NONE);
            g.text(0);
            tell(g, "pic a a");
            is("behind one not refused", g.where(), NONE);
        });
    }

    private static void write() {
        of(45);
        says("A PICTURE is written as rows of THE TEXT are, / between", () -> {
            is("one dot", writtenOf(painted(1, 0), 0).equals("a"), true);
            is("one row", writtenOf(painted(3, 0, 17, 255), 0).equals("abp"), true);
            is("one column", writtenOf(painted(1, 0, 17, 255), 0).equals("a/b/p"), true);
            ShadeGrid g = told("pic a abcdefghijklmnop/ponmlkjihgfedcba");
            String rows = writtenOf(g, 0);
            is("told again", tell(g, "pic b " + rows), 1);
            is("told again", writtenOf(g, 0).equals("abcdefghijklmnop/ponmlkjihgfedcba"), true);
        });
        says("of each SHADE the letter of the nearest one told so, of two as near the lower", () -> {
            // a step of 17 is odd: no whole shade is as near to two
            for (int v = 0; v < 256; v++) {
                ShadeGrid one = painted(1, v);
                one.write(0);
                int letter = one.octet(0) - 'a';
                is("how near " + v, Math.abs(v - 17 * letter) <= 8, true);
            }
            is("8, 9", writtenOf(painted(2, 8, 9), 0).equals("ab"), true);
            is("246, 247", writtenOf(painted(2, 246, 247), 0).equals("op"), true);
        });
        says("how many bytes", () -> {
            is("the fewest", full().write(3), 1);
            is("the most", full().write(2), 16 * 12 + 11);
            is("one row", painted(2, 1, 2).write(0), 2);
            is("one column", painted(1, 1, 2).write(0), 3);
        });
        says("NONE: 1.", () -> needsPicture((g, p) -> g.write(p)));
    }

    private static String writtenOf(ShadeGrid g, int p) {
        StringBuilder all = new StringBuilder();
        int many = g.write(p);
        for (int k = 0; k < many; k++) {
            all.append((char) g.octet(k));
        }
        return all.toString();
    }

    private static void octet() {
        of(46);
        says("Byte k of what was written last", () -> {
            ShadeGrid g = full();
            is("the first", g.octet(0), 'p');
            is("a mark", g.octet(4), '/');
            is("the last", g.octet(13), 'e');
            g.write(NO_PICTURE);
            is("behind a refused one", g.octet(13), 'e');
            g.fill(1, 1, 1, 0);
            g.undo();
            g.text(13);
            is("behind other calls", g.octet(13), 'e');
            g.fill(1, 16, 12, 255);
            g.write(1);
            is("the last of all there can be", g.octet(202), 'p');
        });
        says("NONE: there is none such.", () -> {
            for (int k : new int[] {LEAST, -1, 0, 1, 202, 203, MOST}) {
                is("none written", new ShadeGrid().octet(k), NONE);
            }
            ShadeGrid g = full();
            for (int k : new int[] {LEAST, -1, 14, 203, MOST}) {
                is("octet " + k, g.octet(k), NONE);
            }
            g.write(2);
            is("behind all there can be", g.octet(203), NONE);
            g.write(3);
            is("of a longer one ahead", g.octet(1), NONE);
        });
    }

    private static void letter() {
        of(47);
        says("Letter k (0 a, ..) of the NAME of a PICTURE of the TEXT.", () -> {
            ShadeGrid g = told("pic az a;pic b a;pic zzzzzzzzzzzzzzzz a;pic abcdefghijklmnop a");
            is("a", g.letter(0, 0), 0);
            is("z", g.letter(0, 1), 25);
            is("the last of 16", g.letter(2, 15), 25);
            is("of the fourth", g.letter(3, 15), 15);
        });
        says("NoSuchElementException if there is none such.", () -> {
            is("no text", noLetter(new ShadeGrid(), 0, 0), true);
            ShadeGrid g = told("pic az a;pic abcdefghijklmnop a");
            for (int k : new int[] {LEAST, -1, 2, MOST}) {
                is("letter " + k, noLetter(g, 0, k), true);
            }
            is("the 17th", noLetter(g, 1, 16), true);
            for (int p : new int[] {LEAST, -1, 2, 3, 4, 5, 6, MOST}) {
                is("picture " + p, noLetter(g, p, 0), true);
            }
            g.fill(2, 1, 1, 1);
            is("one that is not of the text", noLetter(g, 2, 0), true);
            g.dot(9, 9, 9);
            noLetter(g, 9, 9);
            is("trouble() stays", g.trouble(), 1);
            g.text(0);
            is("a faulty text leaves them", g.letter(1, 15), 15);
            tell(g, "pic a a");
            is("names are gone with a text", noLetter(g, 1, 0), true);
            is("and their letters", noLetter(g, 0, 1), true);
        });
    }

    private static void bytes() {
        of(48);
        says("Bytes of THE TAPE.", () -> {
            ShadeGrid g = new ShadeGrid();
            is("empty", g.bytes(), 0);
            feedAll(g, " ".repeat(700));
            is("full", g.bytes(), 700);
            g.feed(0, 0, 0, 0, 0);
            is("behind a feed that did not come", g.bytes(), 700);
            g.text(701);
            is("behind a text refused by 2", g.bytes(), 700);
            g.text(0);
            is("behind a text refused by 4", g.bytes(), 0);
            tell(g, "pic a a");
            is("behind a text", g.bytes(), 0);
        });
    }

    private static void trouble() {
        of(49);
        says("TROUBLE.", () -> {
            ShadeGrid g = new ShadeGrid();
            is("of no call", g.trouble(), 0);
            g.dot(0, 0, 0);
            is("it is not gone by being told", g.trouble(), 1);
            is("it is not gone by being told", g.trouble(), 1);
        });
    }
}
