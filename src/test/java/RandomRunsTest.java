import java.lang.reflect.InvocationTargetException;
import java.lang.reflect.Method;
import java.lang.reflect.Modifier;
import java.util.ArrayList;
import java.util.Arrays;
import java.util.Comparator;
import java.util.HashMap;
import java.util.List;
import java.util.Map;
import java.util.Random;

/**
 * Runs of calls drawn from fixed seeds, made on a ShadeGrid and on the Model: both must answer, or
 * throw, the same. Numbers far outside all limits come too, so that the machine's own exceptions
 * would be seen.
 */
public final class RandomRunsTest {
    private static final int[] EXTREMES = {
        Integer.MIN_VALUE, Integer.MIN_VALUE + 1, -1000, -1, 0, 1, 16, 17, 256, 65537, Integer.MAX_VALUE - 1,
        Integer.MAX_VALUE,
    };

    /** What each number of a call means: p picture, x, y dot, v shade, and so on. */
    private static final Map<String, String> KINDS = new HashMap<>();

    static {
        String[] all = {
            "about p6", "dot pxy", "often pv", "set pxyv", "fill pWHv", "turn pp5", "part ppxyWH", "noise pSB",
            "grid ppsr", "gridded 6", "node iik2", "nth m3", "total 2", "blur 3", "read xyv2", "readShade xy",
            "smooth pppsrn", "box pp5", "median pp5", "mix pppC", "above ppp", "levels ppL", "stretch pp",
            "larger pp4", "smaller pp4", "rests psrn", "edges pt", "kept ppsrnt", "flat psrt", "apart pp3",
            "regions pt", "region pto5", "regionAt ptxy", "steep p3", "ranked pR", "line p2x", "pairs p",
            "pair p3", "undo", "write p", "octet O", "letter pk", "fault", "where", "bytes", "trouble", "feed vvvvv",
            "text T",
        };
        for (String line : all) {
            String[] both = line.split(" ");
            KINDS.put(both[0], both.length > 1 ? both[1] : "");
        }
    }

    private final Random random;
    private final ShadeGrid real = new ShadeGrid();
    private final Model model = new Model();
    private final List<String> calls = new ArrayList<>();
    private final boolean large;
    private int made;

    private RandomRunsTest(long seed) {
        random = new Random(seed);
        large = seed % 10 == 0;
    }

    private static List<Method> face() {
        List<Method> all = new ArrayList<>();
        for (Method m : ShadeGrid.class.getDeclaredMethods()) {
            if (Modifier.isPublic(m.getModifiers())) {
                all.add(m);
            }
        }
        all.sort(Comparator.comparing(Method::getName));
        return all;
    }

    private static Object outcome(Object on, String name, Class<?>[] types, Object[] args) throws Exception {
        try {
            Method m = on.getClass().getDeclaredMethod(name, types);
            m.setAccessible(true);
            return m.invoke(on, args);
        } catch (InvocationTargetException e) {
            return e.getCause().getClass().getName();
        }
    }

    private boolean same(Method m, Object... args) throws Exception {
        made++;
        Object want = outcome(model, m.getName(), m.getParameterTypes(), args);
        Object got = outcome(real, m.getName(), m.getParameterTypes(), args);
        calls.add(m.getName() + Arrays.toString(args) + " " + got);
        if (!want.equals(got)) {
            System.out.println("  due is " + want + " behind:");
            calls.subList(Math.max(0, calls.size() - 40), calls.size()).forEach(c -> System.out.println("    " + c));
            return false;
        }
        return true;
    }

    private boolean same(String name, Object... args) throws Exception {
        for (Method m : face()) {
            if (m.getName().equals(name)) {
                return same(m, args);
            }
        }
        throw new IllegalStateException(name);
    }

    private int upTo(int most) {
        return random.nextInt(most + 1);
    }

    /** Mostly among the numbers allowed, their ends often, now and then just outside. */
    private int around(int least, int most) {
        int draw = random.nextInt(20);
        return draw == 0 ? least - 1 : draw == 1 ? most + 1 : draw == 2 ? least : draw == 3 ? most
                : least + upTo(most - least);
    }

    private int argument(char kind) {
        if (random.nextInt(60) == 0) {
            return EXTREMES[random.nextInt(EXTREMES.length)];
        }
        switch (kind) {
            case 'p': return random.nextInt(30) == 0 ? around(0, 5) : upTo(large ? 5 : 3);
            case 'x': return random.nextInt(10) == 0 ? around(0, 15) : upTo(large ? 15 : 3);
            case 'y': return random.nextInt(10) == 0 ? around(0, 11) : upTo(large ? 11 : 2);
            case 'W': return random.nextInt(10) == 0 ? around(1, 16) : 1 + upTo(large ? 15 : 3);
            case 'H': return random.nextInt(10) == 0 ? around(1, 12) : 1 + upTo(large ? 11 : 2);
            case 'v': return random.nextBoolean() ? 17 * upTo(15) : around(0, 255);
            case 't': return random.nextBoolean() ? upTo(40) : around(0, 255);
            case 'S': return around(0, 65536);
            case 'B': return around(0, 127);
            case 's': return around(1, 8);
            case 'r': return around(8, 128);
            case 'n': return around(0, 3);
            case 'C': return around(0, 100);
            case 'L': return around(2, 64);
            case 'i': return -4 + upTo(12);
            case 'k': return -4 + upTo(20);
            case 'm': return upTo(random.nextBoolean() ? 20 : 300);
            case 'o': return around(0, 6);
            case 'R': return around(0, large ? 192 : 12);
            case 'O': return around(0, 20);
            case 'T': return around(0, 40);
            default: return around(0, kind - '0' - 1);
        }
    }

    private boolean anyCall(List<Method> face) throws Exception {
        Method m = face.get(random.nextInt(face.size()));
        String kinds = KINDS.get(m.getName());
        if (kinds == null || kinds.length() != m.getParameterCount()) {
            throw new IllegalStateException(m.getName());
        }
        Object[] args = new Object[kinds.length()];
        for (int a = 0; a < args.length; a++) {
            args[a] = argument(kinds.charAt(a));
        }
        return same(m, args) && same("trouble") && same("where");
    }

    private String word(int length, char last) {
        StringBuilder all = new StringBuilder();
        for (int k = 0; k < length; k++) {
            all.append((char) ('a' + random.nextInt(last - 'a' + 1)));
        }
        return all.toString();
    }

    private String blanks() {
        return " ".repeat(random.nextInt(3) == 0 ? 1 + upTo(2) : 0);
    }

    /** A right text mostly; sometimes with one thing too many, or with a byte changed. */
    private String draftText() {
        StringBuilder all = new StringBuilder();
        int pictures = random.nextInt(12) == 0 ? 5 : 1 + upTo(3);
        boolean sameSizes = random.nextBoolean();
        int wide = 1 + upTo(large ? 15 : 3);
        int high = 1 + upTo(large ? 6 : 2);
        for (int p = 0; p < pictures; p++) {
            if (!sameSizes) {
                wide = 1 + upTo(large ? 15 : 3);
                high = random.nextInt(15) == 0 ? 13 : 1 + upTo(large ? 6 : 2);
            }
            all.append(p == 0 ? "" : ";").append(blanks()).append("pic ").append(blanks());
            all.append(word(random.nextInt(15) == 0 ? 15 + upTo(2) : 1 + upTo(3), random.nextInt(4) == 0 ? 'b' : 'z'));
            all.append(' ').append(blanks());
            char last = random.nextInt(12) == 0 ? 'q' : random.nextInt(3) == 0 ? 'c' : 'p';
            for (int y = 0; y < high; y++) {
                int length = random.nextInt(60) == 0 ? 1 + upTo(17) : wide;
                all.append(y == 0 ? "" : "/").append(y == 0 ? "" : blanks()).append(word(length, last)).append(blanks());
            }
        }
        if (random.nextInt(5) == 0) {
            String odd = "/; pq{`A" + (char) 0 + (char) 200;
            all.setCharAt(random.nextInt(all.length()), odd.charAt(random.nextInt(odd.length())));
        }
        return all.length() > 640 ? all.substring(0, 640) : all.toString();
    }

    private boolean tell() throws Exception {
        String text = draftText();
        int behind = random.nextInt(8) == 0 ? -upTo(text.length() / 2) : 0;
        StringBuilder padded = new StringBuilder(text);
        while (padded.length() % 20 != 0) {
            padded.append(random.nextInt(4) == 0 ? 'a' : ' ');
        }
        int before = real.bytes();
        for (int at = 0; at < padded.length(); at += 20) {
            Object[] args = new Object[5];
            for (int a = 0; a < 5; a++) {
                int b = at + 4 * a;
                args[a] = padded.charAt(b) << 24 | padded.charAt(b + 1) << 16 | padded.charAt(b + 2) << 8
                        | padded.charAt(b + 3);
            }
            if (!same("feed", args)) {
                return false;
            }
        }
        return same("text", before + text.length() + behind) && same("fault") && same("where") && same("bytes")
                && same("trouble");
    }

    /** All that can be asked of a picture or the grid without changing it. */
    private boolean allDots() throws Exception {
        for (int p = 0; p < 6; p++) {
            for (int what = 0; what < 6; what++) {
                if (!same("about", p, what)) {
                    return false;
                }
            }
            if (!same("write", p) || !same("octet", upTo(12))) {
                return false;
            }
        }
        return true;
    }

    private boolean run(int most) throws Exception {
        List<Method> face = face();
        boolean good = random.nextInt(10) == 0 || tell();
        while (good && made < most) {
            int draw = random.nextInt(60);
            good = draw == 0 ? tell() : draw == 1 ? allDots() : anyCall(face);
        }
        return good;
    }

    public static void main(String[] args) throws Exception {
        int runs = args.length > 0 ? Integer.parseInt(args[0]) : 600;
        int first = args.length > 1 ? Integer.parseInt(args[1]) : 1;
        for (int seed = first; seed < first + runs; seed++) {
            if (!new RandomRunsTest(seed).run(512)) {
                System.out.println("run of seed " + seed + " is not as due");
                System.exit(1);
            }
        }
        System.out.println("all runs are as due");
    }
}
