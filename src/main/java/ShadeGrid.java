import java.util.Arrays;
import java.util.NoSuchElementException;

/**
 * Pictures made smooth that keep their edges, by a coarse grid of place and shade.
 * The words in capitals are those of the document.
 */
public final class ShadeGrid {
    public static final int NONE = -1;

    private static final int FINE = 0;
    private static final int NO_SUCH = 1;
    private static final int BAD_NUMBER = 2;
    private static final int NO_ROOM = 3;
    private static final int FAULTY = 4;
    private static final int NOT_SO = 5;

    private static final int NEVER = -2;
    private static final int NO_NODE = -1000;

    private static final int PICTURES = 6;
    private static final int TOLD_PICTURES = 4;
    private static final int MOST_WIDE = 16;
    private static final int MOST_HIGH = 12;
    private static final int DOTS = MOST_WIDE * MOST_HIGH;
    private static final int SHADES = 256;
    private static final int LIGHTEST = 255;
    private static final int LETTER_STEP = 17;
    private static final int LETTER_SHADES = 16;
    private static final int WORD_LETTERS = 16;
    private static final int TAPE_BYTES = 700;
    private static final int FEED_BYTES = 20;
    private static final int WRITTEN_BYTES = DOTS + MOST_HIGH - 1;
    private static final int ACTS = 10;
    private static final int SEEDS = 65537;
    private static final int RESTS = 20;

    private static final int WAYS = 3;
    private static final int SHADE_WAY = 2;
    private static final int MOST_BLURS = 3;

    private final Picture[] pictures = new Picture[PICTURES];
    private final Picture work = new Picture();
    private final Picture ahead = new Picture();
    private final History history = new History();
    private final Tape tape = new Tape();
    private final TextReader reader = new TextReader();
    private final Names names = new Names();
    private final Lattice lattice = new Lattice();
    private final NodeSet nodes = new NodeSet();
    private final Lattice smoother = new Lattice();
    private final Tally tally = new Tally();
    private final Regions areas = new Regions();
    private final Pairs couples = new Pairs();
    private final int[] written = new int[WRITTEN_BYTES];
    private int writtenLength;
    private int latestFault;
    private int faultPlace;
    private int latestTrouble;

    public ShadeGrid() {
        for (int p = 0; p < PICTURES; p++) {
            pictures[p] = new Picture();
        }
    }

    // ---- texts

    public int feed(int a, int b, int c, int d, int e) {
        if (tape.length + FEED_BYTES > TAPE_BYTES) {
            return NONE;
        }
        tape.append(a);
        tape.append(b);
        tape.append(c);
        tape.append(d);
        tape.append(e);
        return tape.length;
    }

    public int text(int n) {
        if (refused(within(n, 0, tape.length) ? FINE : BAD_NUMBER)) {
            return NONE;
        }
        latestFault = reader.faultOf(tape, n);
        faultPlace = tape.tokenStart;
        tape.length = 0;
        if (refused(latestFault == 0 ? FINE : FAULTY)) {
            return NONE;
        }
        takeOver();
        return names.many;
    }

    public int fault() {
        return latestFault;
    }

    public int where() {
        return latestTrouble == FAULTY ? faultPlace : NONE;
    }

    private void takeOver() {
        names.become(reader.names);
        for (int p = 0; p < PICTURES; p++) {
            if (p < names.many && p < TOLD_PICTURES) {
                pictures[p].become(reader.pictures[p]);
            } else {
                pictures[p].forget();
            }
        }
        lattice.forget();
        history.many = 0;
    }

    // ---- pictures

    public int about(int p, int what) {
        if (refused(told(p) && within(what, 0, 5) ? FINE : NO_SUCH)) {
            return NONE;
        }
        Picture picture = pictures[p];
        switch (what) {
            case 0: return picture.wide;
            case 1: return picture.high;
            case 2: return picture.least();
            case 3: return picture.greatest();
            case 4: return picture.together();
            default: return tallied(picture).unlike();
        }
    }

    public int dot(int p, int x, int y) {
        if (refused(hasDot(p, x, y) ? FINE : NO_SUCH)) {
            return NONE;
        }
        return pictures[p].shadeAt(x, y);
    }

    public int often(int p, int shade) {
        if (refused(!told(p) ? NO_SUCH : !isShade(shade) ? BAD_NUMBER : FINE)) {
            return NONE;
        }
        return tallied(pictures[p]).times[shade];
    }

    public int set(int p, int x, int y, int v) {
        if (refused(!hasDot(p, x, y) ? NO_SUCH : !isShade(v) ? BAD_NUMBER : FINE)) {
            return NONE;
        }
        int was = pictures[p].shadeAt(x, y);
        work.become(pictures[p]);
        work.putShade(x, y, v);
        actOn(p);
        return was;
    }

    public boolean fill(int to, int wide, int high, int v) {
        boolean fits = within(wide, 1, MOST_WIDE) && within(high, 1, MOST_HIGH);
        if (refused(!isPlace(to) ? NO_SUCH : !fits || !isShade(v) ? BAD_NUMBER : FINE)) {
            return false;
        }
        work.resize(wide, high);
        Arrays.fill(work.shades, v);
        actOn(to);
        return true;
    }

    public boolean turn(int to, int of, int what) {
        if (refused(!isPlace(to) || !told(of) || !within(what, 0, 4) ? NO_SUCH
                : what == 3 && pictures[of].wide > MOST_HIGH ? NO_ROOM : FINE)) {
            return false;
        }
        turnToWork(pictures[of], what);
        actOn(to);
        return true;
    }

    public boolean part(int to, int of, int x, int y, int wide, int high) {
        if (refused(!isPlace(to) || !hasDot(of, x, y) ? NO_SUCH
                : !within(wide, 1, pictures[of].wide - x) || !within(high, 1, pictures[of].high - y)
                ? BAD_NUMBER : FINE)) {
            return false;
        }
        Picture source = pictures[of];
        work.resize(wide, high);
        for (int v = 0; v < high; v++) {
            for (int u = 0; u < wide; u++) {
                work.putShade(u, v, source.shadeAt(x + u, y + v));
            }
        }
        actOn(to);
        return true;
    }

    public int noise(int p, int seed, int by) {
        if (refused(!told(p) ? NO_SUCH
                : !within(seed, 0, SEEDS - 1) || !within(by, 0, 127) ? BAD_NUMBER : FINE)) {
            return NONE;
        }
        int drawn = seed;
        int sides = 2 * by + 1;
        work.become(pictures[p]);
        for (int d = 0; d < work.count(); d++) {
            drawn = (75 * drawn + 74) % SEEDS;
            work.shades[d] = held(work.shades[d] + drawn % sides - by);
        }
        return actCountingOthers(p, p);
    }

    private void turnToWork(Picture of, int what) {
        boolean swapped = what == 3;
        work.resize(swapped ? of.high : of.wide, swapped ? of.wide : of.high);
        for (int y = 0; y < work.high; y++) {
            for (int x = 0; x < work.wide; x++) {
                work.putShade(x, y, turnedShade(of, x, y, what));
            }
        }
    }

    private static int turnedShade(Picture of, int x, int y, int what) {
        switch (what) {
            case 1: return of.shadeAt(of.wide - 1 - x, y);
            case 2: return of.shadeAt(x, of.high - 1 - y);
            case 3: return of.shadeAt(y, x);
            case 4: return LIGHTEST - of.shadeAt(x, y);
            default: return of.shadeAt(x, y);
        }
    }

    // ---- the grid

    public int grid(int of, int guide, int s, int r) {
        if (refused(!told(of) || !told(guide) ? NO_SUCH
                : !isGridSize(s, r) ? BAD_NUMBER
                : !alike(of, guide) ? NOT_SO : FINE)) {
            return NONE;
        }
        lattice.spread(pictures[of], pictures[guide], s, r, 0);
        nodes.spread(pictures[guide], s, r);
        return nodes.count();
    }

    public int gridded(int what) {
        if (refused(lattice.isMade() && within(what, 0, 5) ? FINE : NO_SUCH)) {
            return NONE;
        }
        switch (what) {
            case 0: return lattice.step;
            case 1: return lattice.range;
            case 5: return nodes.count();
            default: return lattice.blursAlong(what - 2);
        }
    }

    public long node(int i, int j, int k, int what) {
        if (refused(lattice.isMade() && within(what, 0, 1) ? FINE : NO_SUCH)) {
            return NONE;
        }
        return lattice.nodeHolds(i, j, k, what == 1);
    }

    public int nth(int m, int what) {
        if (refused(lattice.isMade() && within(what, 0, 2) && m >= 0 ? FINE : NO_SUCH)) {
            return NONE;
        }
        return nodes.placeOf(m, what);
    }

    public long total(int what) {
        if (refused(lattice.isMade() && within(what, 0, 1) ? FINE : NO_SUCH)) {
            return NONE;
        }
        return lattice.allHold(what == 1);
    }

    public int blur(int way) {
        if (refused(!lattice.isMade() || !within(way, 0, WAYS - 1) ? NO_SUCH
                : lattice.blursAlong(way) >= MOST_BLURS ? NO_ROOM : FINE)) {
            return NONE;
        }
        lattice.blurAlong(way);
        nodes.widen(way);
        return nodes.count();
    }

    public long read(int x, int y, int shade, int what) {
        if (refused(!lattice.hasDot(x, y) || !within(what, 0, 1) ? NO_SUCH
                : !isShade(shade) ? BAD_NUMBER : FINE)) {
            return NONE;
        }
        lattice.gather(x, y, shade);
        long divisor = commonDivisor(lattice.sum, lattice.weight);
        if (refused(lattice.weight == 0 || divisor <= 0 ? NOT_SO : FINE)) {
            return NONE;
        }
        return (what == 0 ? lattice.sum : lattice.weight) / divisor;
    }

    public int readShade(int x, int y) {
        if (refused(lattice.hasDot(x, y) ? FINE : NO_SUCH)) {
            return NONE;
        }
        return lattice.shadeRead(x, y);
    }

    private static long commonDivisor(long one, long other) {
        long divisor = one;
        long rest = other;
        // two turns halve the number at least, so its 63 bits are through long before the bound
        for (int times = 0; times < 200 && rest > 0; times++) {
            long next = divisor % rest;
            divisor = rest;
            rest = next;
        }
        return divisor;
    }

    // ---- smoothing

    public int smooth(int to, int of, int guide, int s, int r, int n) {
        if (refused(!isPlace(to) || !told(of) || !told(guide) ? NO_SUCH
                : !isGridSize(s, r) || !isBlurs(n) ? BAD_NUMBER
                : !alike(of, guide) ? NOT_SO : FINE)) {
            return NONE;
        }
        smoothToWork(pictures[of], pictures[guide], s, r, n);
        return actCountingOthers(to, of);
    }

    public int box(int to, int of, int n) {
        return actAround(to, of, n, false);
    }

    public int median(int to, int of, int n) {
        return actAround(to, of, n, true);
    }

    public boolean mix(int to, int one, int other, int part) {
        if (refused(!isPlace(to) || !told(one) || !told(other) ? NO_SUCH
                : !within(part, 0, 100) ? BAD_NUMBER
                : !alike(one, other) ? NOT_SO : FINE)) {
            return false;
        }
        work.become(pictures[one]);
        Picture second = pictures[other];
        for (int d = 0; d < work.count(); d++) {
            int hundredfold = part * work.shades[d] + (100 - part) * second.shades[d];
            work.shades[d] = nearest(hundredfold, 100);
        }
        actOn(to);
        return true;
    }

    public int above(int to, int of, int other) {
        if (refused(!isPlace(to) || !told(of) || !told(other) ? NO_SUCH
                : !alike(of, other) ? NOT_SO : FINE)) {
            return NONE;
        }
        work.become(pictures[of]);
        Picture second = pictures[other];
        int many = 0;
        for (int d = 0; d < work.count(); d++) {
            int shade = 128 + work.shades[d] - second.shades[d];
            work.shades[d] = held(shade);
            many += isShade(shade) ? 0 : 1;
        }
        actOn(to);
        return many;
    }

    public int levels(int to, int of, int many) {
        if (refused(!isPlace(to) || !told(of) ? NO_SUCH : !within(many, 2, 64) ? BAD_NUMBER : FINE)) {
            return NONE;
        }
        work.become(pictures[of]);
        for (int d = 0; d < work.count(); d++) {
            int level = work.shades[d] * many / SHADES;
            work.shades[d] = LIGHTEST * level / (many - 1);
        }
        return actCountingOthers(to, of);
    }

    public int stretch(int to, int of) {
        if (refused(!isPlace(to) || !told(of) ? NO_SUCH
                : pictures[of].least() >= pictures[of].greatest() ? NOT_SO : FINE)) {
            return NONE;
        }
        int least = pictures[of].least();
        int reach = pictures[of].greatest() - least;
        work.become(pictures[of]);
        for (int d = 0; d < work.count() && reach > 0; d++) {
            work.shades[d] = LIGHTEST * (work.shades[d] - least) / reach;
        }
        return actCountingOthers(to, of);
    }

    public boolean larger(int to, int of, int by) {
        if (refused(!isPlace(to) || !told(of) ? NO_SUCH
                : !within(by, 2, 4) ? BAD_NUMBER
                : pictures[of].wide * by > MOST_WIDE || pictures[of].high * by > MOST_HIGH ? NO_ROOM
                : FINE)) {
            return false;
        }
        Picture source = pictures[of];
        work.resize(source.wide * by, source.high * by);
        for (int y = 0; y < work.high; y++) {
            for (int x = 0; x < work.wide; x++) {
                work.putShade(x, y, source.shadeAt(x / by, y / by));
            }
        }
        actOn(to);
        return true;
    }

    public boolean smaller(int to, int of, int by) {
        if (refused(!isPlace(to) || !told(of) ? NO_SUCH
                : !within(by, 2, 4) ? BAD_NUMBER
                : pictures[of].wide < by || pictures[of].high < by ? NOT_SO : FINE)) {
            return false;
        }
        Picture source = pictures[of];
        work.resize(source.wide / by, source.high / by);
        for (int y = 0; y < work.high; y++) {
            for (int x = 0; x < work.wide; x++) {
                work.putShade(x, y, talliedPart(source, x * by, y * by, by, by).mean());
            }
        }
        actOn(to);
        return true;
    }

    public int rests(int of, int s, int r, int n) {
        if (refused(!told(of) ? NO_SUCH : !isGridSize(s, r) || !isBlurs(n) ? BAD_NUMBER : FINE)) {
            return NONE;
        }
        ahead.become(pictures[of]);
        for (int time = 0; time < RESTS; time++) {
            smoothToWork(ahead, ahead, s, r, n);
            if (othersIn(work, ahead) == 0) {
                return time;
            }
            ahead.become(work);
        }
        return NEVER;
    }

    public int edges(int p, int t) {
        if (refused(!told(p) ? NO_SUCH : !isShade(t) ? BAD_NUMBER : FINE)) {
            return NONE;
        }
        return edgesOfBoth(pictures[p], pictures[p], t);
    }

    public int kept(int of, int guide, int s, int r, int n, int t) {
        if (refused(!told(of) || !told(guide) ? NO_SUCH
                : !isGridSize(s, r) || !isBlurs(n) || !isShade(t) ? BAD_NUMBER
                : !alike(of, guide) ? NOT_SO : FINE)) {
            return NONE;
        }
        smoothToWork(pictures[of], pictures[guide], s, r, n);
        return edgesOfBoth(pictures[of], work, t);
    }

    public int flat(int of, int s, int r, int t) {
        if (refused(!told(of) ? NO_SUCH
                : !isGridSize(s, r) || !within(t, 1, LIGHTEST) ? BAD_NUMBER : FINE)) {
            return NONE;
        }
        for (int n = 0; n <= MOST_BLURS; n++) {
            smoothToWork(pictures[of], pictures[of], s, r, n);
            if (edgesOfBoth(work, work, t) == 0) {
                return n;
            }
        }
        return NEVER;
    }

    private void smoothToWork(Picture of, Picture guide, int s, int r, int n) {
        smoother.spread(of, guide, s, r, n);
        work.resize(of.wide, of.high);
        for (int y = 0; y < work.high; y++) {
            for (int x = 0; x < work.wide; x++) {
                work.putShade(x, y, smoother.shadeRead(x, y));
            }
        }
    }

    /** MEDIAN takes the same dots around each one as BOX, but the middle one instead of the mean. */
    private int actAround(int to, int of, int n, boolean middle) {
        if (refused(!isPlace(to) || !told(of) ? NO_SUCH : !within(n, 0, 4) ? BAD_NUMBER : FINE)) {
            return NONE;
        }
        Picture source = pictures[of];
        work.resize(source.wide, source.high);
        for (int y = 0; y < source.high; y++) {
            for (int x = 0; x < source.wide; x++) {
                Tally around = talliedAround(source, x, y, n);
                work.putShade(x, y, middle ? around.middle() : around.mean());
            }
        }
        return actCountingOthers(to, of);
    }

    private static int edgesOfBoth(Picture one, Picture other, int t) {
        int many = 0;
        for (int y = 0; y < one.high; y++) {
            for (int x = 0; x < one.wide; x++) {
                many += one.stepRight(x, y) >= t && other.stepRight(x, y) >= t ? 1 : 0;
                many += one.stepDown(x, y) >= t && other.stepDown(x, y) >= t ? 1 : 0;
            }
        }
        return many;
    }

    // ---- what is alike

    public int apart(int p, int q, int what) {
        if (refused(!told(p) || !told(q) || !within(what, 0, 2) ? NO_SUCH
                : !alike(p, q) ? NOT_SO : FINE)) {
            return NONE;
        }
        int many = 0;
        int all = 0;
        int greatest = 0;
        for (int d = 0; d < pictures[p].count(); d++) {
            int far = Math.abs(pictures[p].shades[d] - pictures[q].shades[d]);
            many += far > 0 ? 1 : 0;
            all += far;
            greatest = Math.max(greatest, far);
        }
        return what == 0 ? many : what == 1 ? all : greatest;
    }

    public int regions(int p, int t) {
        if (refused(!told(p) ? NO_SUCH : !isShade(t) ? BAD_NUMBER : FINE)) {
            return NONE;
        }
        areas.findIn(pictures[p], t);
        return areas.many;
    }

    public int region(int p, int t, int i, int what) {
        if (refused(!told(p) || !within(what, 0, 4) ? NO_SUCH : !isShade(t) ? BAD_NUMBER : FINE)) {
            return NONE;
        }
        areas.findIn(pictures[p], t);
        if (refused(within(i, 0, areas.many - 1) ? FINE : NO_SUCH)) {
            return NONE;
        }
        return areas.tell(pictures[p], i, what);
    }

    public int regionAt(int p, int t, int x, int y) {
        if (refused(!hasDot(p, x, y) ? NO_SUCH : !isShade(t) ? BAD_NUMBER : FINE)) {
            return NONE;
        }
        areas.findIn(pictures[p], t);
        return areas.numbers[pictures[p].indexOf(x, y)];
    }

    public int steep(int p, int what) {
        if (refused(told(p) && within(what, 0, 2) ? FINE : NO_SUCH)) {
            return NONE;
        }
        Picture picture = pictures[p];
        int all = 0;
        for (int y = 0; y < picture.high; y++) {
            for (int x = 0; x < picture.wide; x++) {
                all += what != 2 ? Math.max(0, picture.stepRight(x, y)) : 0;
                all += what != 1 ? Math.max(0, picture.stepDown(x, y)) : 0;
            }
        }
        return all;
    }

    public int ranked(int p, int i) {
        if (refused(told(p) && within(i, 0, pictures[p].count() - 1) ? FINE : NO_SUCH)) {
            return NONE;
        }
        return tallied(pictures[p]).ofRank(i);
    }

    public int line(int p, int kind, int at) {
        if (refused(kind == 0 && hasDot(p, 0, at) || kind == 1 && hasDot(p, at, 0) ? FINE : NO_SUCH)) {
            return NONE;
        }
        Picture picture = pictures[p];
        return kind == 0
                ? talliedPart(picture, 0, at, picture.wide, 1).sum
                : talliedPart(picture, at, 0, 1, picture.high).sum;
    }

    public int pairs(int p) {
        if (refused(told(p) ? FINE : NO_SUCH)) {
            return NONE;
        }
        couples.findIn(pictures[p]);
        return couples.unlike;
    }

    public int pair(int p, int what) {
        if (refused(told(p) && within(what, 0, 2) ? FINE : NO_SUCH)) {
            return NONE;
        }
        couples.findIn(pictures[p]);
        if (couples.many == 0) {
            return NEVER;
        }
        return what == 0 ? couples.commonest / SHADES
                : what == 1 ? couples.commonest % SHADES : couples.times;
    }

    public int undo() {
        if (refused(history.many > 0 ? FINE : NOT_SO)) {
            return NONE;
        }
        int latest = history.takeLatest();
        int place = history.places[latest];
        if (isPlace(place)) {
            pictures[place].become(history.before[latest]);
        }
        return history.many;
    }

    // ---- what is told

    public int write(int p) {
        if (refused(told(p) ? FINE : NO_SUCH)) {
            return NONE;
        }
        Picture picture = pictures[p];
        writtenLength = 0;
        for (int y = 0; y < picture.high; y++) {
            if (y > 0) {
                writeByte('/');
            }
            for (int x = 0; x < picture.wide; x++) {
                writeByte('a' + nearest(picture.shadeAt(x, y), LETTER_STEP));
            }
        }
        return writtenLength;
    }

    public int octet(int k) {
        return within(k, 0, writtenLength - 1) && k < WRITTEN_BYTES ? written[k] : NONE;
    }

    public int letter(int p, int k) throws NoSuchElementException {
        if (!names.hasLetter(p, k)) {
            throw new NoSuchElementException("no such letter");
        }
        return names.letterOf(p, k);
    }

    public int bytes() {
        return tape.length;
    }

    public int trouble() {
        return latestTrouble;
    }

    private void writeByte(int value) {
        if (writtenLength < WRITTEN_BYTES) {
            written[writtenLength] = value;
            writtenLength++;
        }
    }

    // ---- what a call is refused for

    private boolean refused(int number) {
        latestTrouble = number;
        return number != FINE;
    }

    private static boolean within(int value, int least, int most) {
        return value >= least && value <= most;
    }

    private static boolean isPlace(int p) {
        return within(p, 0, PICTURES - 1);
    }

    private static boolean isShade(int value) {
        return within(value, 0, LIGHTEST);
    }

    private static boolean isGridSize(int s, int r) {
        return within(s, 1, 8) && within(r, 8, 128);
    }

    private static boolean isBlurs(int n) {
        return within(n, 0, MOST_BLURS);
    }

    private boolean told(int p) {
        return isPlace(p) && pictures[p].isTold();
    }

    private boolean hasDot(int p, int x, int y) {
        return told(p) && pictures[p].contains(x, y);
    }

    private boolean alike(int p, int q) {
        return told(p) && told(q)
                && pictures[p].wide == pictures[q].wide && pictures[p].high == pictures[q].high;
    }

    // ---- acts, made in the work picture first, as a call may read the place it writes to

    private void actOn(int to) {
        if (isPlace(to)) {
            history.remember(to, pictures[to]);
            pictures[to].become(work);
        }
    }

    private int actCountingOthers(int to, int of) {
        int others = isPlace(of) ? othersIn(work, pictures[of]) : 0;
        actOn(to);
        return others;
    }

    private static int othersIn(Picture one, Picture other) {
        int many = 0;
        for (int d = 0; d < one.count(); d++) {
            many += one.shades[d] != other.shades[d] ? 1 : 0;
        }
        return many;
    }

    // ---- shades counted

    private Tally tallied(Picture picture) {
        return talliedPart(picture, 0, 0, picture.wide, picture.high);
    }

    private Tally talliedAround(Picture picture, int x, int y, int n) {
        return talliedPart(picture, x - n, y - n, 2 * n + 1, 2 * n + 1);
    }

    private Tally talliedPart(Picture picture, int x, int y, int wide, int high) {
        tally.clear();
        int right = Math.min(x + wide, picture.wide);
        int below = Math.min(y + high, picture.high);
        for (int v = Math.max(0, y); v < below; v++) {
            for (int u = Math.max(0, x); u < right; u++) {
                tally.add(picture.shadeAt(u, v));
            }
        }
        return tally;
    }

    private static int held(int shade) {
        return Math.max(0, Math.min(LIGHTEST, shade));
    }

    /** The nearest whole number, of two as near the lower. */
    private static int nearest(long above, long below) {
        return below <= 0 ? 0 : (int) ((2 * above + below - 1) / (2 * below));
    }

    /** Dots row by row, each row behind the one above; not told while it is 0 wide. */
    private static final class Picture {
        private final int[] shades = new int[DOTS];
        private int wide;
        private int high;

        boolean isTold() {
            return wide > 0;
        }

        void forget() {
            wide = 0;
            high = 0;
        }

        void resize(int newWide, int newHigh) {
            wide = Math.max(0, Math.min(MOST_WIDE, newWide));
            high = Math.max(0, Math.min(MOST_HIGH, newHigh));
        }

        void become(Picture other) {
            wide = other.wide;
            high = other.high;
            System.arraycopy(other.shades, 0, shades, 0, DOTS);
        }

        int count() {
            return wide * high;
        }

        boolean contains(int x, int y) {
            return x >= 0 && x < wide && y >= 0 && y < high;
        }

        int indexOf(int x, int y) {
            return contains(x, y) ? y * wide + x : 0;
        }

        int shadeAt(int x, int y) {
            return contains(x, y) ? shades[y * wide + x] : 0;
        }

        void putShade(int x, int y, int shade) {
            if (contains(x, y)) {
                shades[y * wide + x] = shade;
            }
        }

        /** The STEP to the dot at the right; NONE without one. */
        int stepRight(int x, int y) {
            return contains(x, y) && contains(x + 1, y)
                    ? Math.abs(shadeAt(x, y) - shadeAt(x + 1, y)) : NONE;
        }

        /** The STEP to the dot below; NONE without one. */
        int stepDown(int x, int y) {
            return contains(x, y) && contains(x, y + 1)
                    ? Math.abs(shadeAt(x, y) - shadeAt(x, y + 1)) : NONE;
        }

        int least() {
            int least = LIGHTEST;
            for (int d = 0; d < count(); d++) {
                least = Math.min(least, shades[d]);
            }
            return least;
        }

        int greatest() {
            int greatest = 0;
            for (int d = 0; d < count(); d++) {
                greatest = Math.max(greatest, shades[d]);
            }
            return greatest;
        }

        int together() {
            int all = 0;
            for (int d = 0; d < count(); d++) {
                all += shades[d];
            }
            return all;
        }
    }

    /** What stood at a place ahead of each of the latest ACTS, in a ring. */
    private static final class History {
        private final Picture[] before = new Picture[ACTS];
        private final int[] places = new int[ACTS];
        private int next;
        private int many;

        History() {
            for (int a = 0; a < ACTS; a++) {
                before[a] = new Picture();
            }
        }

        void remember(int place, Picture was) {
            places[next] = place;
            before[next].become(was);
            next = next < ACTS - 1 ? next + 1 : 0;
            many = Math.min(ACTS, many + 1);
        }

        int takeLatest() {
            next = next > 0 ? next - 1 : ACTS - 1;
            many = Math.max(0, many - 1);
            return next;
        }
    }

    /** THE TAPE, and the TOKENS of its first bytes, one at a time. */
    private static final class Tape {
        private static final int END = 0;
        private static final int WORD = 1;
        private static final int SLASH = 2;
        private static final int SEMICOLON = 3;
        private static final int WRONG = 4;

        private final int[] content = new int[TAPE_BYTES];
        private int length;
        private int textLength;
        private int at;
        private int token;
        private int tokenStart;
        private int wordLength;

        void append(int number) {
            for (int shift = 24; shift >= 0; shift -= 8) {
                if (length < TAPE_BYTES) {
                    content[length] = number >>> shift & 255;
                    length++;
                }
            }
        }

        void beginText(int n) {
            textLength = Math.max(0, Math.min(length, n));
            at = 0;
        }

        void nextToken() {
            while (at < textLength && content[at] == ' ') {
                at++;
            }
            tokenStart = at;
            while (at < textLength && isLetter(content[at])) {
                at++;
            }
            wordLength = at - tokenStart;
            if (wordLength > 0) {
                token = wordLength <= WORD_LETTERS ? WORD : WRONG;
            } else if (at >= textLength) {
                token = END;
            } else {
                token = markOf(content[at]);
                at++;
            }
        }

        /** Letter k of the WORD that is the TOKEN now: 0 a. */
        int wordLetter(int k) {
            return k >= 0 && k < wordLength ? content[tokenStart + k] - 'a' : NONE;
        }

        boolean isPic() {
            return token == WORD && wordLength == 3
                    && wordLetter(0) == 'p' - 'a' && wordLetter(1) == 'i' - 'a' && wordLetter(2) == 'c' - 'a';
        }

        private static boolean isLetter(int value) {
            return within(value, 'a', 'z');
        }

        private static int markOf(int value) {
            return value == '/' ? SLASH : value == ';' ? SEMICOLON : WRONG;
        }
    }

    /** The NAMES of the PICTURES of a TEXT. */
    private static final class Names {
        private final int[] letters = new int[TOLD_PICTURES * WORD_LETTERS];
        private final int[] lengths = new int[TOLD_PICTURES];
        private int many;

        void become(Names other) {
            many = other.many;
            System.arraycopy(other.letters, 0, letters, 0, TOLD_PICTURES * WORD_LETTERS);
            System.arraycopy(other.lengths, 0, lengths, 0, TOLD_PICTURES);
        }

        void add(Tape tape) {
            if (many < TOLD_PICTURES) {
                lengths[many] = Math.min(WORD_LETTERS, tape.wordLength);
                for (int k = 0; k < lengths[many]; k++) {
                    letters[many * WORD_LETTERS + k] = tape.wordLetter(k);
                }
                many++;
            }
        }

        boolean know(Tape tape) {
            for (int p = 0; p < many; p++) {
                if (isName(p, tape)) {
                    return true;
                }
            }
            return false;
        }

        boolean hasLetter(int p, int k) {
            return p >= 0 && p < many && p < TOLD_PICTURES && k >= 0 && k < lengths[p];
        }

        int letterOf(int p, int k) {
            return hasLetter(p, k) ? letters[p * WORD_LETTERS + k] : NONE;
        }

        private boolean isName(int p, Tape tape) {
            int length = tape.wordLength;
            if (hasLetter(p, length) || !hasLetter(p, length - 1)) {
                return false;
            }
            for (int k = 0; k < length; k++) {
                if (letters[p * WORD_LETTERS + k] != tape.wordLetter(k)) {
                    return false;
                }
            }
            return true;
        }
    }

    /** Reads a TEXT into pictures of its own, so that a FAULT leaves those there are as they were. */
    private static final class TextReader {
        private static final int FORM = 1;
        private static final int ROW = 2;
        private static final int NAME_AGAIN = 3;
        private static final int TOO_MANY = 4;

        private static final int WANT_PIC = 0;
        private static final int WANT_NAME = 1;
        private static final int WANT_FIRST_ROW = 2;
        private static final int WANT_ROW = 3;
        private static final int WANT_MARK = 4;
        private static final int WANT_NOTHING = 5;

        private final Picture[] pictures = new Picture[TOLD_PICTURES];
        private final Names names = new Names();
        private int want;

        TextReader() {
            for (int p = 0; p < TOLD_PICTURES; p++) {
                pictures[p] = new Picture();
            }
        }

        int faultOf(Tape tape, int n) {
            names.many = 0;
            want = WANT_PIC;
            tape.beginText(n);
            int fault = 0;
            // each TOKEN has a byte at least; the end takes one turn more
            for (int turn = 0; turn <= TAPE_BYTES && fault == 0 && want != WANT_NOTHING; turn++) {
                tape.nextToken();
                fault = take(tape);
            }
            return fault;
        }

        private int take(Tape tape) {
            switch (want) {
                case WANT_PIC: return takePic(tape);
                case WANT_NAME: return takeName(tape);
                case WANT_MARK: return takeMark(tape);
                default: return takeRow(tape);
            }
        }

        private int takePic(Tape tape) {
            if (!tape.isPic()) {
                return FORM;
            }
            want = WANT_NAME;
            return names.many < TOLD_PICTURES ? 0 : TOO_MANY;
        }

        private int takeName(Tape tape) {
            if (tape.token != Tape.WORD) {
                return FORM;
            }
            if (names.know(tape)) {
                return NAME_AGAIN;
            }
            names.add(tape);
            want = WANT_FIRST_ROW;
            return 0;
        }

        private int takeRow(Tape tape) {
            int p = names.many - 1;
            if (tape.token != Tape.WORD || p < 0 || p >= TOLD_PICTURES) {
                return FORM;
            }
            if (want == WANT_FIRST_ROW) {
                pictures[p].resize(tape.wordLength, 0);
            }
            want = WANT_MARK;
            return addRow(pictures[p], tape);
        }

        private static int addRow(Picture picture, Tape tape) {
            if (tape.wordLength != picture.wide || !isRow(tape)) {
                return ROW;
            }
            if (picture.high >= MOST_HIGH) {
                return TOO_MANY;
            }
            picture.resize(picture.wide, picture.high + 1);
            for (int x = 0; x < picture.wide; x++) {
                picture.putShade(x, picture.high - 1, LETTER_STEP * tape.wordLetter(x));
            }
            return 0;
        }

        private static boolean isRow(Tape tape) {
            for (int k = 0; k < tape.wordLength; k++) {
                if (tape.wordLetter(k) >= LETTER_SHADES) {
                    return false;
                }
            }
            return true;
        }

        private int takeMark(Tape tape) {
            switch (tape.token) {
                case Tape.SLASH: want = WANT_ROW; return 0;
                case Tape.SEMICOLON: want = WANT_PIC; return 0;
                case Tape.END: want = WANT_NOTHING; return 0;
                default: return FORM;
            }
        }
    }

    /**
     * A GRID, kept as the dots that it was spread from. BLUR works along one way alone, so what
     * comes from a dot to a NODE, or to a READ, is a product of three numbers, one for each way:
     * that needs far less room and time than all the NODES themselves.
     */
    private static final class Lattice {
        /** Beyond this, to all sides, no NODE ever has a WEIGHT. */
        private static final int FAR = 64;
        private static final int ECHO_WIDTH = 2 * MOST_BLURS + 1;
        /** After 0 .. 3 BLURS: what comes of 1 at a NODE to those -3 .. 3 beside it. */
        private static final int[] ECHOES = {
            0, 0, 0, 1, 0, 0, 0,
            0, 0, 1, 2, 1, 0, 0,
            0, 1, 4, 6, 4, 1, 0,
            1, 6, 15, 20, 15, 6, 1,
        };

        private final Picture picture = new Picture();
        private final Picture guide = new Picture();
        private final int[] blurs = new int[WAYS];
        private final int[] bondsAcross = new int[MOST_WIDE * MOST_WIDE];
        private final int[] bondsDown = new int[MOST_HIGH * MOST_HIGH];
        private int step;
        private int range;
        private long weight;
        private long sum;

        boolean isMade() {
            return step > 0;
        }

        void forget() {
            step = 0;
        }

        /** Spread from the dots, then n times BLURRED along each way. */
        void spread(Picture of, Picture by, int s, int r, int n) {
            picture.become(of);
            guide.become(by);
            step = s;
            range = r;
            Arrays.fill(blurs, n);
            bindPlaces();
        }

        void blurAlong(int way) {
            if (within(way, 0, WAYS - 1)) {
                blurs[way]++;
                bindPlaces();
            }
        }

        int blursAlong(int way) {
            return within(way, 0, WAYS - 1) ? blurs[way] : 0;
        }

        boolean hasDot(int x, int y) {
            return isMade() && picture.contains(x, y);
        }

        /** WEIGHT, or SUM, of a NODE. */
        long nodeHolds(int i, int j, int k, boolean ofSums) {
            if (!within(i, -FAR, FAR) || !within(j, -FAR, FAR) || !within(k, -FAR, FAR)) {
                return 0;
            }
            long all = 0;
            for (int y = 0; y < guide.high; y++) {
                long down = gift(y, j, step, blurs[1]);
                for (int x = 0; x < guide.wide; x++) {
                    long here = down * gift(x, i, step, blurs[0])
                            * gift(guide.shadeAt(x, y), k, range, blurs[SHADE_WAY]);
                    all += ofSums ? here * picture.shadeAt(x, y) : here;
                }
            }
            return all;
        }

        /** The PARTS of a dot are step times step times range together, and each BLUR makes 4 of 1. */
        long allHold(boolean ofSums) {
            long parts = (long) step * step * range;
            long dots = ofSums ? picture.together() : picture.count();
            return dots * parts << 2 * (blurs[0] + blurs[1] + blurs[SHADE_WAY]);
        }

        int shadeRead(int x, int y) {
            gather(x, y, guide.shadeAt(x, y));
            return nearest(sum, weight);
        }

        /** READ at a dot: weight and sum are what is there then. */
        void gather(int x, int y, int shade) {
            weight = 0;
            sum = 0;
            if (!picture.contains(x, y)) {
                return;
            }
            int d = 0;
            for (int v = 0; v < picture.high; v++) {
                long down = bondsDown[y * MOST_HIGH + v];
                for (int u = 0; u < picture.wide; u++) {
                    long near = down * bondsAcross[x * MOST_WIDE + u];
                    if (near > 0) {
                        near *= bond(shade, guide.shades[d], range, blurs[SHADE_WAY]);
                        weight += near;
                        sum += near * picture.shades[d];
                    }
                    d++;
                }
            }
        }

        private void bindPlaces() {
            for (int x = 0; x < picture.wide; x++) {
                for (int u = 0; u < picture.wide; u++) {
                    bondsAcross[x * MOST_WIDE + u] = bond(x, u, step, blurs[0]);
                }
            }
            for (int y = 0; y < picture.high; y++) {
                for (int v = 0; v < picture.high; v++) {
                    bondsDown[y * MOST_HIGH + v] = bond(y, v, step, blurs[1]);
                }
            }
        }

        /**
         * Along one way: what comes to a READ at one place from a dot at another place, over the
         * two NODES of each of them.
         */
        private static int bond(int reader, int giver, int size, int times) {
            if (size <= 0) {
                return 0;
            }
            int far = reader / size - giver / size;
            if (far > times + 1 || far < -times - 1) {
                return 0;
            }
            int rest = reader % size;
            int other = giver % size;
            return ((size - rest) * (size - other) + rest * other) * echo(times, far)
                    + rest * (size - other) * echo(times, far + 1)
                    + (size - rest) * other * echo(times, far - 1);
        }

        /** Along one way: what comes to a NODE from a dot at a place. */
        private static int gift(int giver, int node, int size, int times) {
            if (size <= 0) {
                return 0;
            }
            int far = node - giver / size;
            int rest = giver % size;
            return (size - rest) * echo(times, far) + rest * echo(times, far - 1);
        }

        private static int echo(int times, int far) {
            return times >= 0 && times <= MOST_BLURS && far >= -times && far <= times
                    ? ECHOES[times * ECHO_WIDTH + MOST_BLURS + far] : 0;
        }
    }

    /**
     * The NODES with a WEIGHT above 0: for each i, j the bits of one number tell the k. They
     * never need the WEIGHTS, as these are nowhere below 0.
     */
    private static final class NodeSet {
        private static final int ACROSS = MOST_WIDE + 2 * MOST_BLURS;
        private static final int DOWN = MOST_HIGH + 2 * MOST_BLURS;
        private static final int BITS = SHADES / 8 + 1 + 2 * MOST_BLURS;

        private final long[] columns = new long[ACROSS * DOWN];

        void spread(Picture guide, int s, int r) {
            Arrays.fill(columns, 0);
            for (int y = 0; y < guide.high; y++) {
                for (int x = 0; x < guide.wide; x++) {
                    spreadDot(x, y, s, shadeNodes(guide.shadeAt(x, y), r));
                }
            }
        }

        private void spreadDot(int x, int y, int s, long bits) {
            if (s <= 0) {
                return;
            }
            int i = x / s;
            int j = y / s;
            boolean right = x % s > 0;
            boolean below = y % s > 0;
            add(i, j, bits);
            add(i + 1, j, right ? bits : 0);
            add(i, j + 1, below ? bits : 0);
            add(i + 1, j + 1, right && below ? bits : 0);
        }

        private static long shadeNodes(int shade, int r) {
            if (r <= 0) {
                return 0;
            }
            int bit = shade / r + MOST_BLURS;
            return (shade % r > 0 ? 3L : 1L) << bit;
        }

        private void add(int i, int j, long bits) {
            int across = i + MOST_BLURS;
            int down = j + MOST_BLURS;
            if (within(across, 0, ACROSS - 1) && within(down, 0, DOWN - 1)) {
                columns[across * DOWN + down] |= bits;
            }
        }

        void widen(int way) {
            if (way == 0) {
                for (int down = 0; down < DOWN; down++) {
                    widenLine(down, DOWN, ACROSS);
                }
            } else if (way == 1) {
                for (int across = 0; across < ACROSS; across++) {
                    widenLine(across * DOWN, 1, DOWN);
                }
            } else {
                for (int c = 0; c < ACROSS * DOWN; c++) {
                    columns[c] |= columns[c] << 1 | columns[c] >>> 1;
                }
            }
        }

        private void widenLine(int first, int stride, int many) {
            long before = 0;
            for (int n = 0; n < many; n++) {
                int at = first + n * stride;
                long here = columns[at];
                long behind = n < many - 1 ? columns[at + stride] : 0;
                columns[at] = before | here | behind;
                before = here;
            }
        }

        int count() {
            int many = 0;
            for (int c = 0; c < ACROSS * DOWN; c++) {
                many += Long.bitCount(columns[c]);
            }
            return many;
        }

        /** Of the m-th NODE 0 i, 1 j, 2 k. */
        int placeOf(int m, int what) {
            int left = m;
            for (int c = 0; c < ACROSS * DOWN; c++) {
                int here = Long.bitCount(columns[c]);
                if (left < here) {
                    return (what == 0 ? c / DOWN : what == 1 ? c % DOWN : bitOfRank(columns[c], left))
                            - MOST_BLURS;
                }
                left -= here;
            }
            return NO_NODE;
        }

        private static int bitOfRank(long bits, int rank) {
            int left = rank;
            for (int bit = 0; bit < BITS; bit++) {
                if ((bits >>> bit & 1) != 0) {
                    if (left == 0) {
                        return bit;
                    }
                    left--;
                }
            }
            return 0;
        }
    }

    /** How often each SHADE comes among some dots. */
    private static final class Tally {
        private final int[] times = new int[SHADES];
        private int many;
        private int sum;

        void clear() {
            Arrays.fill(times, 0);
            many = 0;
            sum = 0;
        }

        void add(int shade) {
            if (isShade(shade)) {
                times[shade]++;
                many++;
                sum += shade;
            }
        }

        int unlike() {
            int unlike = 0;
            for (int shade = 0; shade < SHADES; shade++) {
                unlike += times[shade] > 0 ? 1 : 0;
            }
            return unlike;
        }

        int mean() {
            return nearest(sum, many);
        }

        int middle() {
            return ofRank((many - 1) / 2);
        }

        /** The shade at a rank by size, the least first. */
        int ofRank(int rank) {
            int left = rank;
            for (int shade = 0; shade < SHADES; shade++) {
                if (left < times[shade]) {
                    return shade;
                }
                left -= times[shade];
            }
            return NONE;
        }
    }

    /** The REGIONS of a PICTURE: of each dot the number of its one. */
    private static final class Regions {
        private final int[] numbers = new int[DOTS];
        private final int[] queueX = new int[DOTS];
        private final int[] queueY = new int[DOTS];
        private int queued;
        private int many;

        void findIn(Picture picture, int t) {
            Arrays.fill(numbers, NONE);
            many = 0;
            for (int y = 0; y < picture.high; y++) {
                for (int x = 0; x < picture.wide; x++) {
                    if (numbers[picture.indexOf(x, y)] == NONE) {
                        flood(picture, t, x, y);
                        many++;
                    }
                }
            }
        }

        private void flood(Picture picture, int t, int firstX, int firstY) {
            queued = 0;
            enter(picture, firstX, firstY);
            for (int q = 0; q < queued && q < DOTS; q++) {
                int x = queueX[q];
                int y = queueY[q];
                if (within(picture.stepRight(x, y), 0, t)) {
                    enter(picture, x + 1, y);
                }
                if (within(picture.stepRight(x - 1, y), 0, t)) {
                    enter(picture, x - 1, y);
                }
                if (within(picture.stepDown(x, y), 0, t)) {
                    enter(picture, x, y + 1);
                }
                if (within(picture.stepDown(x, y - 1), 0, t)) {
                    enter(picture, x, y - 1);
                }
            }
        }

        private void enter(Picture picture, int x, int y) {
            if (picture.contains(x, y) && numbers[picture.indexOf(x, y)] == NONE && queued < DOTS) {
                numbers[picture.indexOf(x, y)] = many;
                queueX[queued] = x;
                queueY[queued] = y;
                queued++;
            }
        }

        /** Of a REGION 0 x, 1 y of its first dot, 2 how many dots, 3 the least, 4 the greatest SHADE. */
        int tell(Picture picture, int number, int what) {
            int dots = 0;
            int first = 0;
            int least = LIGHTEST;
            int greatest = 0;
            for (int d = picture.count() - 1; d >= 0; d--) {
                if (numbers[d] == number) {
                    dots++;
                    first = d;
                    least = Math.min(least, picture.shades[d]);
                    greatest = Math.max(greatest, picture.shades[d]);
                }
            }
            int wide = Math.max(1, picture.wide);
            switch (what) {
                case 0: return first % wide;
                case 1: return first / wide;
                case 2: return dots;
                case 3: return least;
                default: return greatest;
            }
        }
    }

    /** The PAIRS of a PICTURE, each as one number: the lesser SHADE 256 times, and the other one. */
    private static final class Pairs {
        private static final int MOST = (MOST_WIDE - 1) * MOST_HIGH + MOST_WIDE * (MOST_HIGH - 1);
        private static final int[] GAPS = {132, 57, 23, 10, 4, 1};

        private final int[] codes = new int[MOST];
        private int many;
        private int unlike;
        private int commonest;
        private int times;

        void findIn(Picture picture) {
            many = 0;
            for (int y = 0; y < picture.high; y++) {
                for (int x = 0; x < picture.wide; x++) {
                    if (picture.contains(x + 1, y)) {
                        add(picture.shadeAt(x, y), picture.shadeAt(x + 1, y));
                    }
                    if (picture.contains(x, y + 1)) {
                        add(picture.shadeAt(x, y), picture.shadeAt(x, y + 1));
                    }
                }
            }
            sort();
            countRuns();
        }

        private void add(int one, int other) {
            if (many < MOST) {
                codes[many] = Math.min(one, other) * SHADES + Math.max(one, other);
                many++;
            }
        }

        private void sort() {
            for (int gap : GAPS) {
                for (int n = gap; n < many; n++) {
                    sink(n, gap);
                }
            }
        }

        private void sink(int from, int gap) {
            int code = codes[from];
            int at = from;
            while (gap > 0 && at >= gap && codes[at - gap] > code) {
                codes[at] = codes[at - gap];
                at -= gap;
            }
            codes[at] = code;
        }

        /** Like ones stand together, the lesser first, so only a longer run takes the place of one. */
        private void countRuns() {
            unlike = 0;
            commonest = 0;
            times = 0;
            int run = 0;
            for (int n = 0; n < many; n++) {
                boolean again = n > 0 && codes[n] == codes[n - 1];
                run = again ? run + 1 : 1;
                unlike += again ? 0 : 1;
                if (run > times) {
                    times = run;
                    commonest = codes[n];
                }
            }
        }
    }
}
