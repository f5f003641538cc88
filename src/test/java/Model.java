import java.util.ArrayDeque;
import java.util.ArrayList;
import java.util.Arrays;
import java.util.Deque;
import java.util.HashMap;
import java.util.List;
import java.util.Map;
import java.util.NoSuchElementException;
import java.util.TreeMap;
import java.util.TreeSet;

/**
 * The document written down a second time, as plainly as can be and without a thought of room or
 * time: every NODE of a grid is held in a map, every ACT keeps a copy of all pictures. RandomRunsTest
 * sets it beside ShadeGrid.
 */
final class Model {
    static final int NONE = -1;

    /** What a refused call ends with inside the model. */
    private static final class Refused extends RuntimeException {
        private static final long serialVersionUID = 1L;
        final int number;

        Refused(int number) {
            this.number = number;
        }
    }

    /** A body that may be refused. */
    private interface Body {
        long answer();
    }

    private record Node(int i, int j, int k) implements Comparable<Node> {
        @Override
        public int compareTo(Node o) {
            return i != o.i ? Integer.compare(i, o.i) : j != o.j ? Integer.compare(j, o.j) : Integer.compare(k, o.k);
        }
    }

    /** pictures[p][y][x]; null: none. */
    private int[][][] pictures = new int[6][][];
    private final Deque<int[][][]> acts = new ArrayDeque<>();
    private final StringBuilder tape = new StringBuilder();
    private List<String> names = new ArrayList<>();
    private String written = "";
    private int fault;
    private int place;
    private int trouble;

    private Map<Node, long[]> grid;
    private int step;
    private int range;
    private int[] blurs;
    private int[][] guideThen;

    // ---- refusing

    private long call(Body body) {
        try {
            long answer = body.answer();
            trouble = 0;
            return answer;
        } catch (Refused r) {
            trouble = r.number;
            return NONE;
        }
    }

    private static void need(boolean holds, int number) {
        if (!holds) {
            throw new Refused(number);
        }
    }

    private int[][] picture(int p) {
        need(p >= 0 && p <= 5 && pictures[p] != null, 1);
        return pictures[p];
    }

    private static void place(int to) {
        need(to >= 0 && to <= 5, 1);
    }

    private static void dotOf(int[][] a, int x, int y) {
        need(y >= 0 && y < a.length && x >= 0 && x < a[0].length, 1);
    }

    private static void number(int v, int least, int most) {
        need(least <= v && v <= most, 2);
    }

    private static void what(int v, int most) {
        need(0 <= v && v <= most, 1);
    }

    private static void sameSize(int[][] a, int[][] b) {
        need(a.length == b.length && a[0].length == b[0].length, 5);
    }

    // ---- acts

    private static int[][] copy(int[][] a) {
        int[][] b = new int[a.length][];
        for (int y = 0; y < a.length; y++) {
            b[y] = a[y].clone();
        }
        return b;
    }

    private void act(int to, int[][] made) {
        acts.addLast(pictures.clone());
        if (acts.size() > 10) {
            acts.removeFirst();
        }
        pictures = pictures.clone();
        pictures[to] = made;
    }

    private static int unlike(int[][] a, int[][] b) {
        int n = 0;
        for (int y = 0; y < a.length; y++) {
            for (int x = 0; x < a[0].length; x++) {
                if (a[y][x] != b[y][x]) {
                    n++;
                }
            }
        }
        return n;
    }

    private static long halfDown(long above, long below) {
        long whole = above / below;
        return 2 * (above % below) > below ? whole + 1 : whole;
    }

    // ---- texts

    int feed(int a, int b, int c, int d, int e) {
        if (tape.length() + 20 > 700) {
            return NONE;
        }
        for (int v : new int[] {a, b, c, d, e}) {
            tape.append((char) (v >>> 24)).append((char) (v >> 16 & 255)).append((char) (v >> 8 & 255)).append((char) (v & 255));
        }
        return tape.length();
    }

    int text(int n) {
        return (int) call(() -> {
            number(n, 0, tape.length());
            String t = tape.substring(0, n);
            tape.setLength(0);
            parse(t);
            return names.size();
        });
    }

    private void faulty(int f, int at) {
        fault = f;
        place = at;
        throw new Refused(4);
    }

    /** Tokens are cut off the text with their places first; a wrong byte is a token of its own, "!". */
    private void parse(String t) {
        List<String> tokens = new ArrayList<>();
        List<Integer> places = new ArrayList<>();
        for (int at = 0; at < t.length();) {
            char ch = t.charAt(at);
            int end = at + 1;
            if (ch >= 'a' && ch <= 'z') {
                while (end < t.length() && t.charAt(end) >= 'a' && t.charAt(end) <= 'z') {
                    end++;
                }
            }
            String token = t.substring(at, end);
            if (ch != ' ') {
                boolean right = token.matches("[a-z]{1,16}|[;/]");
                tokens.add(right ? token : "!");
                places.add(at);
            }
            at = end;
        }
        tokens.add("END");
        places.add(t.length());

        List<String> newNames = new ArrayList<>();
        List<List<String>> newRows = new ArrayList<>();
        int at = 0;
        boolean more = true;
        while (more) {
            if (!tokens.get(at).equals("pic")) {
                faulty(1, places.get(at));
            }
            if (newNames.size() == 4) {
                faulty(4, places.get(at));
            }
            at++;
            if (!tokens.get(at).matches("[a-z]+")) {
                faulty(1, places.get(at));
            }
            if (newNames.contains(tokens.get(at))) {
                faulty(3, places.get(at));
            }
            newNames.add(tokens.get(at));
            at++;
            List<String> rows = new ArrayList<>();
            boolean moreRows = true;
            while (moreRows) {
                String row = tokens.get(at);
                if (!row.matches("[a-z]+")) {
                    faulty(1, places.get(at));
                }
                if (!row.matches("[a-p]+") || !rows.isEmpty() && rows.get(0).length() != row.length()) {
                    faulty(2, places.get(at));
                }
                if (rows.size() == 12) {
                    faulty(4, places.get(at));
                }
                rows.add(row);
                at++;
                moreRows = tokens.get(at).equals("/");
                if (moreRows) {
                    at++;
                }
            }
            newRows.add(rows);
            if (!tokens.get(at).equals(";") && !tokens.get(at).equals("END")) {
                faulty(1, places.get(at));
            }
            more = tokens.get(at).equals(";");
            at++;
        }
        names = newNames;
        pictures = new int[6][][];
        for (int p = 0; p < newRows.size(); p++) {
            List<String> rows = newRows.get(p);
            pictures[p] = new int[rows.size()][rows.get(0).length()];
            for (int y = 0; y < rows.size(); y++) {
                for (int x = 0; x < rows.get(0).length(); x++) {
                    pictures[p][y][x] = 17 * (rows.get(y).charAt(x) - 'a');
                }
            }
        }
        acts.clear();
        grid = null;
        fault = 0;
    }

    int fault() {
        return fault;
    }

    int where() {
        return trouble == 4 ? place : NONE;
    }

    // ---- pictures

    private static List<Integer> sorted(int[][] a) {
        List<Integer> all = new ArrayList<>();
        for (int[] row : a) {
            for (int v : row) {
                all.add(v);
            }
        }
        all.sort(null);
        return all;
    }

    int about(int p, int what) {
        return (int) call(() -> {
            int[][] a = picture(p);
            what(what, 5);
            List<Integer> all = sorted(a);
            return switch (what) {
                case 0 -> a[0].length;
                case 1 -> a.length;
                case 2 -> all.get(0);
                case 3 -> all.get(all.size() - 1);
                case 4 -> all.stream().mapToInt(v -> v).sum();
                default -> new TreeSet<>(all).size();
            };
        });
    }

    int dot(int p, int x, int y) {
        return (int) call(() -> {
            dotOf(picture(p), x, y);
            return pictures[p][y][x];
        });
    }

    int often(int p, int shade) {
        return (int) call(() -> {
            int[][] a = picture(p);
            number(shade, 0, 255);
            return sorted(a).stream().filter(v -> v == shade).count();
        });
    }

    int set(int p, int x, int y, int v) {
        return (int) call(() -> {
            dotOf(picture(p), x, y);
            number(v, 0, 255);
            int was = pictures[p][y][x];
            int[][] a = copy(pictures[p]);
            a[y][x] = v;
            act(p, a);
            return was;
        });
    }

    boolean fill(int to, int wide, int high, int v) {
        return call(() -> {
            place(to);
            number(wide, 1, 16);
            number(high, 1, 12);
            number(v, 0, 255);
            int[][] a = new int[high][wide];
            for (int[] row : a) {
                Arrays.fill(row, v);
            }
            act(to, a);
            return 1;
        }) == 1;
    }

    boolean turn(int to, int of, int what) {
        return call(() -> {
            place(to);
            int[][] a = picture(of);
            what(what, 4);
            int h = a.length;
            int w = a[0].length;
            need(what != 3 || w <= 12, 3);
            int[][] b = what == 3 ? new int[w][h] : new int[h][w];
            for (int y = 0; y < h; y++) {
                for (int x = 0; x < w; x++) {
                    switch (what) {
                        case 0 -> b[y][x] = a[y][x];
                        case 1 -> b[y][w - 1 - x] = a[y][x];
                        case 2 -> b[h - 1 - y][x] = a[y][x];
                        case 3 -> b[x][y] = a[y][x];
                        default -> b[y][x] = 255 - a[y][x];
                    }
                }
            }
            act(to, b);
            return 1;
        }) == 1;
    }

    boolean part(int to, int of, int x, int y, int wide, int high) {
        return call(() -> {
            place(to);
            int[][] a = picture(of);
            dotOf(a, x, y);
            need(wide >= 1 && high >= 1, 2);
            need((long) x + wide <= a[0].length && (long) y + high <= a.length, 2);
            int[][] b = new int[high][];
            for (int v = 0; v < high; v++) {
                b[v] = Arrays.copyOfRange(a[y + v], x, x + wide);
            }
            act(to, b);
            return 1;
        }) == 1;
    }

    int noise(int p, int seed, int by) {
        return (int) call(() -> {
            int[][] a = picture(p);
            number(seed, 0, 65536);
            number(by, 0, 127);
            int[][] b = copy(a);
            long state = seed;
            for (int[] row : b) {
                for (int x = 0; x < row.length; x++) {
                    state = (75 * state + 74) % 65537;
                    row[x] = (int) Math.min(255, Math.max(0, row[x] + state % (2 * by + 1) - by));
                }
            }
            act(p, b);
            return unlike(a, b);
        });
    }

    // ---- the grid

    /** Nodes along one way with their PARTS. */
    private static Map<Integer, Integer> parts(int at, int size) {
        Map<Integer, Integer> all = new TreeMap<>();
        all.put(at / size, size - at % size);
        all.put(at / size + 1, at % size);
        return all;
    }

    private static void give(Map<Node, long[]> to, Node node, long weight, long sum) {
        if (weight == 0) {
            return;
        }
        long[] held = to.computeIfAbsent(node, n -> new long[2]);
        held[0] = Math.addExact(held[0], weight);
        held[1] = Math.addExact(held[1], sum);
    }

    private static Map<Node, long[]> spread(int[][] a, int[][] g, int s, int r) {
        Map<Node, long[]> all = new HashMap<>();
        for (int y = 0; y < a.length; y++) {
            for (int x = 0; x < a[0].length; x++) {
                for (Map.Entry<Integer, Integer> i : parts(x, s).entrySet()) {
                    for (Map.Entry<Integer, Integer> j : parts(y, s).entrySet()) {
                        for (Map.Entry<Integer, Integer> k : parts(g[y][x], r).entrySet()) {
                            long part = (long) i.getValue() * j.getValue() * k.getValue();
                            give(all, new Node(i.getKey(), j.getKey(), k.getKey()), part, part * a[y][x]);
                        }
                    }
                }
            }
        }
        return all;
    }

    private static Map<Node, long[]> blurred(Map<Node, long[]> was, int way) {
        Map<Node, long[]> all = new HashMap<>();
        for (Map.Entry<Node, long[]> e : was.entrySet()) {
            Node n = e.getKey();
            long[] h = e.getValue();
            give(all, n, 2 * h[0], 2 * h[1]);
            for (int d = -1; d <= 1; d += 2) {
                Node beside = new Node(way == 0 ? n.i + d : n.i, way == 1 ? n.j + d : n.j, way == 2 ? n.k + d : n.k);
                give(all, beside, h[0], h[1]);
            }
        }
        return all;
    }

    private static long[] readOf(Map<Node, long[]> all, int x, int y, int g, int s, int r) {
        long above = 0;
        long below = 0;
        for (Map.Entry<Integer, Integer> i : parts(x, s).entrySet()) {
            for (Map.Entry<Integer, Integer> j : parts(y, s).entrySet()) {
                for (Map.Entry<Integer, Integer> k : parts(g, r).entrySet()) {
                    long part = (long) i.getValue() * j.getValue() * k.getValue();
                    long[] h = all.get(new Node(i.getKey(), j.getKey(), k.getKey()));
                    if (h != null) {
                        below = Math.addExact(below, Math.multiplyExact(part, h[0]));
                        above = Math.addExact(above, Math.multiplyExact(part, h[1]));
                    }
                }
            }
        }
        return new long[] {above, below};
    }

    private static int[][] smoothed(int[][] a, int[][] g, int s, int r, int n) {
        Map<Node, long[]> all = spread(a, g, s, r);
        for (int t = 0; t < n; t++) {
            for (int way = 0; way < 3; way++) {
                all = blurred(all, way);
            }
        }
        int[][] b = copy(a);
        for (int y = 0; y < a.length; y++) {
            for (int x = 0; x < a[0].length; x++) {
                long[] f = readOf(all, x, y, g[y][x], s, r);
                b[y][x] = (int) halfDown(f[0], f[1]);
            }
        }
        return b;
    }

    private static void sizes(int s, int r) {
        number(s, 1, 8);
        number(r, 8, 128);
    }

    int grid(int of, int guide, int s, int r) {
        return (int) call(() -> {
            int[][] a = picture(of);
            int[][] g = picture(guide);
            sizes(s, r);
            sameSize(a, g);
            grid = spread(a, g, s, r);
            step = s;
            range = r;
            blurs = new int[3];
            guideThen = copy(g);
            return grid.size();
        });
    }

    int gridded(int what) {
        return (int) call(() -> {
            need(grid != null, 1);
            what(what, 5);
            return what == 0 ? step : what == 1 ? range : what == 5 ? grid.size() : blurs[what - 2];
        });
    }

    long node(int i, int j, int k, int what) {
        return call(() -> {
            need(grid != null, 1);
            what(what, 1);
            long[] h = grid.get(new Node(i, j, k));
            return h == null ? 0 : h[what];
        });
    }

    int nth(int m, int what) {
        return (int) call(() -> {
            need(grid != null && m >= 0, 1);
            what(what, 2);
            List<Node> all = new ArrayList<>(new TreeSet<>(grid.keySet()));
            if (m >= all.size()) {
                return -1000;
            }
            Node n = all.get(m);
            return what == 0 ? n.i : what == 1 ? n.j : n.k;
        });
    }

    long total(int what) {
        return call(() -> {
            need(grid != null, 1);
            what(what, 1);
            return grid.values().stream().mapToLong(h -> h[what]).sum();
        });
    }

    int blur(int way) {
        return (int) call(() -> {
            need(grid != null, 1);
            what(way, 2);
            need(blurs[way] < 3, 3);
            grid = blurred(grid, way);
            blurs[way]++;
            return grid.size();
        });
    }

    long read(int x, int y, int shade, int what) {
        return call(() -> {
            need(grid != null, 1);
            dotOf(guideThen, x, y);
            what(what, 1);
            number(shade, 0, 255);
            long[] f = readOf(grid, x, y, shade, step, range);
            need(f[1] > 0, 5);
            java.math.BigInteger d = java.math.BigInteger.valueOf(f[0]).gcd(java.math.BigInteger.valueOf(f[1]));
            return f[what] / d.longValueExact();
        });
    }

    int readShade(int x, int y) {
        return (int) call(() -> {
            need(grid != null, 1);
            dotOf(guideThen, x, y);
            long[] f = readOf(grid, x, y, guideThen[y][x], step, range);
            return halfDown(f[0], f[1]);
        });
    }

    // ---- smoothing

    int smooth(int to, int of, int guide, int s, int r, int n) {
        return (int) call(() -> {
            place(to);
            int[][] a = picture(of);
            int[][] g = picture(guide);
            sizes(s, r);
            number(n, 0, 3);
            sameSize(a, g);
            int[][] b = smoothed(a, g, s, r, n);
            act(to, b);
            return unlike(a, b);
        });
    }

    private static List<Integer> around(int[][] a, int x, int y, int n) {
        List<Integer> all = new ArrayList<>();
        for (int v = 0; v < a.length; v++) {
            for (int u = 0; u < a[0].length; u++) {
                if (Math.abs(u - x) <= n && Math.abs(v - y) <= n) {
                    all.add(a[v][u]);
                }
            }
        }
        all.sort(null);
        return all;
    }

    int box(int to, int of, int n) {
        return (int) call(() -> {
            place(to);
            int[][] a = picture(of);
            number(n, 0, 4);
            int[][] b = copy(a);
            for (int y = 0; y < a.length; y++) {
                for (int x = 0; x < a[0].length; x++) {
                    List<Integer> all = around(a, x, y, n);
                    b[y][x] = (int) halfDown(all.stream().mapToInt(v -> v).sum(), all.size());
                }
            }
            act(to, b);
            return unlike(a, b);
        });
    }

    int median(int to, int of, int n) {
        return (int) call(() -> {
            place(to);
            int[][] a = picture(of);
            number(n, 0, 4);
            int[][] b = copy(a);
            for (int y = 0; y < a.length; y++) {
                for (int x = 0; x < a[0].length; x++) {
                    List<Integer> all = around(a, x, y, n);
                    int size = all.size();
                    b[y][x] = all.get(size % 2 == 1 ? size / 2 : size / 2 - 1);
                }
            }
            act(to, b);
            return unlike(a, b);
        });
    }

    boolean mix(int to, int one, int other, int part) {
        return call(() -> {
            place(to);
            int[][] a = picture(one);
            int[][] c = picture(other);
            number(part, 0, 100);
            sameSize(a, c);
            int[][] b = copy(a);
            for (int y = 0; y < a.length; y++) {
                for (int x = 0; x < a[0].length; x++) {
                    b[y][x] = (int) halfDown((long) part * a[y][x] + (100L - part) * c[y][x], 100);
                }
            }
            act(to, b);
            return 1;
        }) == 1;
    }

    int above(int to, int of, int other) {
        return (int) call(() -> {
            place(to);
            int[][] a = picture(of);
            int[][] c = picture(other);
            sameSize(a, c);
            int[][] b = copy(a);
            int held = 0;
            for (int y = 0; y < a.length; y++) {
                for (int x = 0; x < a[0].length; x++) {
                    int v = 128 + a[y][x] - c[y][x];
                    if (v < 0 || v > 255) {
                        held++;
                    }
                    b[y][x] = v < 0 ? 0 : v > 255 ? 255 : v;
                }
            }
            act(to, b);
            return held;
        });
    }

    int levels(int to, int of, int many) {
        return (int) call(() -> {
            place(to);
            int[][] a = picture(of);
            number(many, 2, 64);
            int[][] b = copy(a);
            for (int[] row : b) {
                for (int x = 0; x < row.length; x++) {
                    row[x] = 255 * (row[x] * many / 256) / (many - 1);
                }
            }
            act(to, b);
            return unlike(a, b);
        });
    }

    int stretch(int to, int of) {
        return (int) call(() -> {
            place(to);
            int[][] a = picture(of);
            List<Integer> all = sorted(a);
            int least = all.get(0);
            int greatest = all.get(all.size() - 1);
            need(least < greatest, 5);
            int[][] b = copy(a);
            for (int[] row : b) {
                for (int x = 0; x < row.length; x++) {
                    row[x] = 255 * (row[x] - least) / (greatest - least);
                }
            }
            act(to, b);
            return unlike(a, b);
        });
    }

    boolean larger(int to, int of, int by) {
        return call(() -> {
            place(to);
            int[][] a = picture(of);
            number(by, 2, 4);
            need(a[0].length * by <= 16 && a.length * by <= 12, 3);
            int[][] b = new int[a.length * by][a[0].length * by];
            for (int y = 0; y < b.length; y++) {
                for (int x = 0; x < b[0].length; x++) {
                    b[y][x] = a[y / by][x / by];
                }
            }
            act(to, b);
            return 1;
        }) == 1;
    }

    boolean smaller(int to, int of, int by) {
        return call(() -> {
            place(to);
            int[][] a = picture(of);
            number(by, 2, 4);
            need(a[0].length / by > 0 && a.length / by > 0, 5);
            int[][] b = new int[a.length / by][a[0].length / by];
            for (int y = 0; y < b.length; y++) {
                for (int x = 0; x < b[0].length; x++) {
                    int sum = 0;
                    for (int v = 0; v < by; v++) {
                        for (int u = 0; u < by; u++) {
                            sum += a[y * by + v][x * by + u];
                        }
                    }
                    b[y][x] = (int) halfDown(sum, by * by);
                }
            }
            act(to, b);
            return 1;
        }) == 1;
    }

    int rests(int of, int s, int r, int n) {
        return (int) call(() -> {
            int[][] a = picture(of);
            sizes(s, r);
            number(n, 0, 3);
            int changes = 0;
            while (changes < 20) {
                int[][] b = smoothed(a, a, s, r, n);
                if (unlike(a, b) == 0) {
                    return changes;
                }
                changes++;
                a = b;
            }
            return -2;
        });
    }

    /** All NEIGHBOURS as {x, y, u, v}; those side by side first. */
    private static List<int[]> neighbours(int[][] a) {
        List<int[]> all = new ArrayList<>();
        for (int y = 0; y < a.length; y++) {
            for (int x = 1; x < a[0].length; x++) {
                all.add(new int[] {x - 1, y, x, y});
            }
        }
        for (int y = 1; y < a.length; y++) {
            for (int x = 0; x < a[0].length; x++) {
                all.add(new int[] {x, y - 1, x, y});
            }
        }
        return all;
    }

    private static int stepOf(int[][] a, int[] n) {
        return Math.abs(a[n[1]][n[0]] - a[n[3]][n[2]]);
    }

    int edges(int p, int t) {
        return (int) call(() -> {
            int[][] a = picture(p);
            number(t, 0, 255);
            return neighbours(a).stream().filter(n -> stepOf(a, n) >= t).count();
        });
    }

    int kept(int of, int guide, int s, int r, int n, int t) {
        return (int) call(() -> {
            int[][] a = picture(of);
            int[][] g = picture(guide);
            sizes(s, r);
            number(n, 0, 3);
            number(t, 0, 255);
            sameSize(a, g);
            int[][] b = smoothed(a, g, s, r, n);
            return neighbours(a).stream().filter(e -> stepOf(a, e) >= t && stepOf(b, e) >= t).count();
        });
    }

    int flat(int of, int s, int r, int t) {
        return (int) call(() -> {
            int[][] a = picture(of);
            sizes(s, r);
            number(t, 1, 255);
            for (int n = 0; n <= 3; n++) {
                int[][] b = smoothed(a, a, s, r, n);
                if (neighbours(b).stream().noneMatch(e -> stepOf(b, e) >= t)) {
                    return n;
                }
            }
            return -2;
        });
    }

    // ---- what is alike

    int apart(int p, int q, int what) {
        return (int) call(() -> {
            int[][] a = picture(p);
            int[][] b = picture(q);
            what(what, 2);
            sameSize(a, b);
            int sum = 0;
            int most = 0;
            for (int y = 0; y < a.length; y++) {
                for (int x = 0; x < a[0].length; x++) {
                    sum += Math.abs(a[y][x] - b[y][x]);
                    most = Math.max(most, Math.abs(a[y][x] - b[y][x]));
                }
            }
            return what == 0 ? unlike(a, b) : what == 1 ? sum : most;
        });
    }

    /** Numbers go over to neighbours till nothing changes; then they are counted anew. */
    private static int[][] regionsOf(int[][] a, int t) {
        int[][] label = copy(a);
        for (int y = 0; y < a.length; y++) {
            for (int x = 0; x < a[0].length; x++) {
                label[y][x] = y * a[0].length + x;
            }
        }
        boolean changed = true;
        while (changed) {
            changed = false;
            for (int[] n : neighbours(a)) {
                int one = label[n[1]][n[0]];
                int other = label[n[3]][n[2]];
                if (stepOf(a, n) <= t && one != other) {
                    label[n[1]][n[0]] = Math.min(one, other);
                    label[n[3]][n[2]] = Math.min(one, other);
                    changed = true;
                }
            }
        }
        List<Integer> roots = new ArrayList<>(new TreeSet<>(sorted(label)));
        for (int[] row : label) {
            for (int x = 0; x < row.length; x++) {
                row[x] = roots.indexOf(row[x]);
            }
        }
        return label;
    }

    private static int regionCount(int[][] label) {
        return new TreeSet<>(sorted(label)).size();
    }

    int regions(int p, int t) {
        return (int) call(() -> {
            int[][] a = picture(p);
            number(t, 0, 255);
            return regionCount(regionsOf(a, t));
        });
    }

    int region(int p, int t, int i, int what) {
        return (int) call(() -> {
            int[][] a = picture(p);
            what(what, 4);
            number(t, 0, 255);
            int[][] label = regionsOf(a, t);
            need(i >= 0 && i < regionCount(label), 1);
            List<Integer> shades = new ArrayList<>();
            int firstX = -1;
            int firstY = -1;
            for (int y = 0; y < a.length; y++) {
                for (int x = 0; x < a[0].length; x++) {
                    if (label[y][x] == i) {
                        if (shades.isEmpty()) {
                            firstX = x;
                            firstY = y;
                        }
                        shades.add(a[y][x]);
                    }
                }
            }
            shades.sort(null);
            return switch (what) {
                case 0 -> firstX;
                case 1 -> firstY;
                case 2 -> shades.size();
                case 3 -> shades.get(0);
                default -> shades.get(shades.size() - 1);
            };
        });
    }

    int regionAt(int p, int t, int x, int y) {
        return (int) call(() -> {
            int[][] a = picture(p);
            dotOf(a, x, y);
            number(t, 0, 255);
            return regionsOf(a, t)[y][x];
        });
    }

    int steep(int p, int what) {
        return (int) call(() -> {
            int[][] a = picture(p);
            what(what, 2);
            return neighbours(a).stream()
                    .filter(n -> what == 0 || (what == 1) == (n[1] == n[3]))
                    .mapToInt(n -> stepOf(a, n)).sum();
        });
    }

    int ranked(int p, int i) {
        return (int) call(() -> {
            List<Integer> all = sorted(picture(p));
            need(i >= 0 && i < all.size(), 1);
            return all.get(i);
        });
    }

    int line(int p, int kind, int at) {
        return (int) call(() -> {
            int[][] a = picture(p);
            what(kind, 1);
            need(at >= 0 && at < (kind == 0 ? a.length : a[0].length), 1);
            int sum = 0;
            for (int y = 0; y < a.length; y++) {
                for (int x = 0; x < a[0].length; x++) {
                    if ((kind == 0 ? y : x) == at) {
                        sum += a[y][x];
                    }
                }
            }
            return sum;
        });
    }

    private static TreeMap<List<Integer>, Integer> pairsOf(int[][] a) {
        TreeMap<List<Integer>, Integer> all = new TreeMap<>((p, q) -> p.get(0).equals(q.get(0))
                ? p.get(1).compareTo(q.get(1)) : p.get(0).compareTo(q.get(0)));
        for (int[] n : neighbours(a)) {
            int one = a[n[1]][n[0]];
            int other = a[n[3]][n[2]];
            all.merge(List.of(Math.min(one, other), Math.max(one, other)), 1, Integer::sum);
        }
        return all;
    }

    int pairs(int p) {
        return (int) call(() -> pairsOf(picture(p)).size());
    }

    int pair(int p, int what) {
        return (int) call(() -> {
            int[][] a = picture(p);
            what(what, 2);
            List<Integer> best = null;
            int most = 0;
            for (Map.Entry<List<Integer>, Integer> e : pairsOf(a).entrySet()) {
                if (e.getValue() > most) {
                    most = e.getValue();
                    best = e.getKey();
                }
            }
            return best == null ? -2 : what == 2 ? most : best.get(what);
        });
    }

    int undo() {
        return (int) call(() -> {
            need(!acts.isEmpty(), 5);
            pictures = acts.removeLast();
            return acts.size();
        });
    }

    // ---- what is told

    int write(int p) {
        return (int) call(() -> {
            int[][] a = picture(p);
            StringBuilder all = new StringBuilder();
            for (int[] row : a) {
                if (all.length() > 0) {
                    all.append('/');
                }
                for (int v : row) {
                    int best = 0;
                    for (int n = 1; n < 16; n++) {
                        if (Math.abs(v - 17 * n) < Math.abs(v - 17 * best)) {
                            best = n;
                        }
                    }
                    all.append((char) ('a' + best));
                }
            }
            written = all.toString();
            return written.length();
        });
    }

    int octet(int k) {
        return k >= 0 && k < written.length() ? written.charAt(k) : NONE;
    }

    int letter(int p, int k) {
        if (p < 0 || p >= names.size() || k < 0 || k >= names.get(p).length()) {
            throw new NoSuchElementException();
        }
        return names.get(p).charAt(k) - 'a';
    }

    int bytes() {
        return tape.length();
    }

    int trouble() {
        return trouble;
    }
}
