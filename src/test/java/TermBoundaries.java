import java.util.List;

/** The boundary cases of "Terms" I: pictures, THE TEXT, FAULTS. */
final class TermBoundaries extends Boundaries {
    private TermBoundaries() {
    }

    static void all() {
        of(Document.TERMS);
        pictures();
        tokens();
        grammar();
        faults();
    }

    /** A text of this form is taken, and has so many pictures. */
    private static ShadeGrid taken(String text, int pictures) {
        ShadeGrid g = new ShadeGrid();
        is("text \"" + text + "\"", tell(g, text), pictures);
        is("trouble() of \"" + text + "\"", g.trouble(), 0);
        is("fault() of \"" + text + "\"", g.fault(), 0);
        return g;
    }

    static void faulty(int fault, int place, String text) {
        ShadeGrid g = new ShadeGrid();
        is("text \"" + text + "\"", tell(g, text), NONE);
        is("trouble() of \"" + text + "\"", g.trouble(), 4);
        is("fault() of \"" + text + "\"", g.fault(), fault);
        is("where() of \"" + text + "\"", g.where(), place);
    }

    private static void pictures() {
        says("I. PICTURES 0 .. 5, each told or none", () -> {
            bounds(0, 5, 1, ShadeGrid::new, (g, p) -> yes(g.fill(p, 1, 1, 0)));
            for (int p = 0; p < 6; p++) {
                int place = p;
                refuses(1, ShadeGrid::new, g -> g.about(place, 0));
                ShadeGrid g = new ShadeGrid();
                g.fill(p, 1, 1, 0);
                for (int q = 0; q < 6; q++) {
                    is("picture " + q + " beside " + p, g.about(q, 0), q == p ? 1 : NONE);
                }
            }
        });
        says("WIDE 1 .. 16, HIGH 1 .. 12 dots", () -> {
            bounds(1, 16, 2, (g, wide) -> yes(g.fill(5, wide, 12, 0)));
            bounds(1, 12, 2, (g, high) -> yes(g.fill(5, 16, high, 0)));
        });
        says("(x from 0 to the right, y from 0 down)", () -> {
            ShadeGrid g = told("pic a abc/def");
            dots(g, 0, 3, 0, 17, 34, 51, 68, 85);
            bounds(0, 2, 1, (o, x) -> o.dot(0, x, 1));
            bounds(0, 1, 1, (o, y) -> o.dot(0, 2, y));
        });
        says("each with a SHADE 0 .. 255", () -> {
            bounds(0, 255, 2, (g, v) -> g.set(2, 15, 11, v));
            bounds(0, 255, 2, (g, v) -> yes(g.fill(2, 16, 12, v)));
        });
    }

    private static void tokens() {
        says("THE TEXT (THE TAPE has 700 bytes", () -> {
            ShadeGrid g = new ShadeGrid();
            is("700", feedAll(g, " ".repeat(693) + "pic a p"), 700);
            is("720", g.feed(0, 0, 0, 0, 0), NONE);
            is("a text of all of them", g.text(700), 1);
            is("its dot", g.dot(0, 0, 0), 255);
        });
        says("blanks, 32, part TOKENS and mean nothing else", () -> {
            dots(taken("    pic    a   b  /   c   ;  pic   d   e   ", 2), 0, 1, 17, 34);
            dots(taken("pic a b/c;pic d e", 2), 0, 1, 17, 34);
            faulty(1, 0, "pica b");
            faulty(1, 6, "pic ab");
            taken("pic a bc", 1);
            faulty(1, 8, "pic a b c");
            for (int odd : new int[] {0, 9, 10, 13, 31, 33, 127, 160}) {
                faulty(1, 3, "pic" + (char) odd + "a b");
            }
        });
        says("TOKENS: WORDS of 1 to 16 small letters that stand together", () -> {
            is("a name of 16", taken("pic abcdefghijklmnop a", 1).letter(0, 15), 15);
            is("a row of 16", taken("pic a aaaaaaaaaaaaaaap", 1).dot(0, 15, 0), 255);
            is("a name of 1, the last letter", taken("pic z a", 1).letter(0, 0), 25);
            faulty(1, 4, "pic abcdefghijklmnopq a");
            faulty(1, 6, "pic a aaaaaaaaaaaaaaaaa");
            faulty(1, 4, "pic Z a");
            for (int odd : new int[] {'A', 'Z', '`', '{', '0', '9', 'a' + 128, 'z' + 128, 255}) {
                faulty(1, 4, "pic " + (char) odd + " a");
            }
        });
        says("single ones of ; /)", () -> {
            faulty(1, 8, "pic a a//a");
            faulty(1, 8, "pic a a;;pic b a");
            faulty(1, 8, "pic a a/;pic b a");
            faulty(1, 8, "pic a a;/a");
            for (int odd : new int[] {'.', '0', ':', '<', '/' + 128, ';' + 128}) {
                faulty(1, 7, "pic a a" + (char) odd + "a");
            }
        });
    }

    private static void grammar() {
        says("LINE {; LINE}", () -> {
            taken("pic a a", 1);
            taken("pic a a;pic b a;pic c a;pic d a", 4);
            faulty(1, 0, "");
            faulty(1, 0, ";pic a a");
            faulty(1, 8, "pic a a;");
            faulty(1, 8, "pic a a pic b a");
        });
        says("LINE: pic WORD WORD {/ WORD}", () -> {
            faulty(1, 0, "pie a a");
            faulty(1, 0, "pi a a");
            faulty(1, 0, "picc a a");
            faulty(1, 3, "pic");
            faulty(1, 5, "pic a");
            faulty(1, 6, "pic a / a");
            faulty(1, 8, "pic a a/");
            is("no row more", taken("pic a a", 1).about(0, 1), 1);
            is("rows up to 12", taken("pic a a/a/a/a/a/a/a/a/a/a/a/p", 1).dot(0, 0, 11), 255);
        });
        says("a PICTURE (from 0 on, up to 4)", () -> {
            ShadeGrid one = taken("pic a b", 1);
            is("the first", one.dot(0, 0, 0), 17);
            for (int p = 1; p < 6; p++) {
                is("no second", one.dot(p, 0, 0), NONE);
            }
            ShadeGrid four = taken("pic a b;pic b c;pic c d;pic d e", 4);
            for (int p = 0; p < 6; p++) {
                is("four", four.dot(p, 0, 0), p < 4 ? 17 * (p + 1) : NONE);
            }
            faulty(4, 32, "pic a b;pic b c;pic c d;pic d e;pic e f");
        });
        says("its NAME (any WORD; no two alike)", () -> {
            taken("pic pic pic", 1);
            taken("pic p a;pic pi a;pic pic a;pic picc a", 4);
            taken("pic picc a;pic pic a;pic pi a;pic p a", 4);
            taken("pic zzzzzzzzzzzzzzzz a;pic zzzzzzzzzzzzzzzy a", 2);
            faulty(3, 27, "pic zzzzzzzzzzzzzzzz a;pic zzzzzzzzzzzzzzzz a");
            faulty(3, 28, "pic a a;pic b b;pic c c;pic a d");
        });
        says("and its rows from the top on, a letter a .. p for a dot: SHADE 17 times 0 (a) .. 15 (p).", () -> {
            ShadeGrid g = taken("pic a abcdefghijklmnop/ponmlkjihgfedcba", 1);
            for (int x = 0; x < 16; x++) {
                is("the upper row", g.dot(0, x, 0), 17 * x);
                is("the lower row", g.dot(0, x, 1), 17 * (15 - x));
            }
            faulty(2, 6, "pic a q");
            faulty(2, 6, "pic a z");
        });
    }

    private static void faults() {
        says("FAULTS. Told is the first TOKEN, from the left, at which one is found", () -> {
            faulty(2, 6, "pic a q;foo");
            faulty(2, 6, "pic a q!");
            faulty(3, 12, "pic a a;pic a q");
            faulty(1, 8, "pic a a q/q");
            faulty(4, 32, "pic a a;pic b a;pic c a;pic d a;pic a q");
            faulty(4, 30, "pic a a/a/a/a/a/a/a/a/a/a/a/a/a/q");
        });
        says("of one TOKEN the least number", () -> {
            faulty(1, 6, "pic a qqqqqqqqqqqqqqqqq");
            faulty(1, 12, "pic a a;pic aaaaaaaaaaaaaaaaa a");
            faulty(1, 30, "pic a a/a/a/a/a/a/a/a/a/a/a/a/aaaaaaaaaaaaaaaaa");
            faulty(1, 30, "pic a a/a/a/a/a/a/a/a/a/a/a/a/");
            faulty(2, 30, "pic a a/a/a/a/a/a/a/a/a/a/a/a/aa");
            faulty(2, 30, "pic a a/a/a/a/a/a/a/a/a/a/a/a/q");
            faulty(1, 32, "pic a a;pic b a;pic c a;pic d a;pie e a");
        });
        says("1 FORM: a byte that begins no TOKEN", () -> {
            List<String> right = List.of("", "pic ", "pic a ", "pic a a", "pic a a/", "pic a a;");
            for (String ahead : right) {
                faulty(1, ahead.length(), ahead + "!");
                faulty(1, ahead.length(), ahead + (char) 255);
                faulty(1, ahead.length(), ahead + (char) 0);
            }
        });
        says("letters too many that stand together (at the first of these)", () -> {
            faulty(1, 0, "picpicpicpicpicpi");
            faulty(1, 5, "pic  aaaaaaaaaaaaaaaaa a");
            faulty(1, 8, "pic a a/aaaaaaaaaaaaaaaaa");
            faulty(1, 8, "pic a a aaaaaaaaaaaaaaaaa");
            faulty(1, 4, "pic " + "z".repeat(696));
        });
        says("a TOKEN with which no TEXT goes on (the end of the text: how many bytes it has)", () -> {
            for (String open : List.of("", "pic", "pic a", "pic a a/", "pic a a;", "pic a a;pic", "pic a a;pic b")) {
                faulty(1, open.length(), open);
                faulty(1, open.length() + 3, open + "   ");
            }
            faulty(1, 700, " ".repeat(700));
            faulty(1, 4, "pic ; a");
            faulty(1, 4, "pic / a");
            faulty(1, 6, "pic a ; a");
            faulty(1, 0, "/");
            faulty(1, 8, "pic a a b");
        });
        says("2 a row with a letter beyond p, or of another length than the first one's", () -> {
            faulty(2, 6, "pic a aaq");
            faulty(2, 6, "pic a qaa");
            faulty(2, 10, "pic a aaa/aaq");
            faulty(2, 9, "pic a aa/a");
            faulty(2, 9, "pic a aa/aaa");
            faulty(2, 12, "pic a aa/aa/a");
            faulty(2, 17, "pic a aa;pic b a/aa");
            taken("pic a aa;pic b a/a;pic q a", 3);
        });
        says("3 a NAME told again", () -> {
            faulty(3, 12, "pic a a;pic a a");
            faulty(3, 20, "pic a a;pic b a;pic b a");
            taken("pic a a;pic aa a;pic aaa a", 3);
        });
        says("4 a fifth pic, at that WORD; a thirteenth row.", () -> {
            faulty(4, 34, "pic a a;pic b a;pic c a;pic d a;  pic");
            taken("pic a a;pic b a;pic c a;pic d a", 4);
            faulty(4, 30, "pic a a/a/a/a/a/a/a/a/a/a/a/a/a");
            faulty(4, 39, "pic a a;pic b a/a/a/a/a/a/a/a/a/a/a/a/ a");
            taken("pic a a/a/a/a/a/a/a/a/a/a/a/a;pic b a", 2);
        });
    }
}
