import java.math.BigInteger;

/**
 * The document said again, as plainly as BigInteger lets, to hold the program against it. Shares no
 * code with the program: TRUE numbers are held against each other by their cubes, times 512.
 */
public final class Model {
    private static final int EXACT = 0;
    private static final int ENDLESS = 1;
    private static final int ROOT = 2;
    private static final int CUBED = 3;
    private static final int AGAIN = 4;

    record Number(int kind, int t, boolean below) {
    }

    private static final Number ZERO = new Number(EXACT, 0, false);
    private final Number[] cells = {ZERO, ZERO, ZERO, ZERO, ZERO, ZERO, ZERO, ZERO};
    private int acts;
    private int refused;
    private int knocks;

    private static void cell(int... cells) {
        for (int cell : cells) {
            if (cell < 0 || cell > 7) {
                throw new IndexOutOfBoundsException();
            }
        }
    }

    private static void in(long n, long least, long most) {
        if (n < least || n > most) {
            throw new IllegalArgumentException();
        }
    }

    private static void so(boolean is) {
        if (!is) {
            throw new IllegalStateException();
        }
    }

    static boolean ofSet(long t) {
        return (t >= -65535 && t <= 65535) || (t >= -524280 && t <= 524280 && t % 8 == 0);
    }

    private static Number exact(int t) {
        return new Number(EXACT, t, t < 0);
    }

    private int came(Number what, int into) {
        acts++;
        int came = cells[into].equals(what) ? 0 : 1;
        cells[into] = what;
        return came;
    }

    private int cameOrNot(Number what, int into) {
        if (what == null) {
            refused++;
            return -9;
        }
        return came(what, into);
    }

    public int eighths(int c, int t) {
        cell(c);
        in(t, -65535, 65535);
        return came(exact(t), c);
    }

    public int units(int c, int n) {
        cell(c);
        in(n, -65535, 65535);
        return came(exact(8 * n), c);
    }

    public int zero(int c, boolean below) {
        cell(c);
        return came(new Number(EXACT, 0, below), c);
    }

    public int endless(int c, boolean below) {
        cell(c);
        return came(new Number(ENDLESS, 0, below), c);
    }

    public int row(int from, int by) {
        in(from, -65535, 65535);
        in(by, -8192, 8192);
        for (int i = 0; i < 8; i++) {
            if (Math.abs(from + i * by) > 65535) {
                refused++;
                return -9;
            }
        }
        int changed = 0;
        for (int i = 0; i < 8; i++) {
            changed += came(exact(from + i * by), i);
        }
        acts -= 7;
        return changed;
    }

    public int copy(int c, int into) {
        cell(c, into);
        return came(cells[c], into);
    }

    public int step(int c, int by) {
        cell(c);
        in(by, -65535, 65535);
        boolean can = cells[c].kind == EXACT && ofSet(cells[c].t + by);
        return cameOrNot(can ? exact(cells[c].t + by) : null, c);
    }

    public int turn(int c) {
        cell(c);
        return came(new Number(cells[c].kind, -cells[c].t, !cells[c].below), c);
    }

    /** The a with a * a * a = t, or 1000 if there is none. */
    private static int base(int t) {
        for (int a = -90; a <= 90; a++) {
            if (a * a * a == t) {
                return a;
            }
        }
        return 1000;
    }

    private static Number signed(int kind, long t) {
        return ofSet(t) ? new Number(kind, (int) t, t < 0) : null;
    }

    private static Number became(int how, Number from) {
        int kind = from.kind;
        long t = from.t;
        if (kind == ENDLESS || t == 0) {
            return from;
        }
        if (how == 1) {
            if (kind == EXACT) {
                return base((int) t) == 1000 ? signed(ROOT, t) : exact(4 * base((int) t));
            }
            return kind == CUBED ? signed(AGAIN, t) : null;
        }
        if (how == 2) {
            if (kind == EXACT) {
                return t % 4 == 0 && Math.abs(t) <= 4000 ? signed(EXACT, (t / 4) * (t / 4) * (t / 4)) : null;
            }
            return kind == ROOT ? signed(CUBED, t) : null;
        }
        if (how == 3) {
            return kind == EXACT ? signed(EXACT, 2 * t) : kind == ROOT ? signed(ROOT, 8 * t) : null;
        }
        if (how == 4) {
            if (kind == EXACT) {
                return t % 2 == 0 ? signed(EXACT, t / 2) : null;
            }
            return kind == ROOT && t % 8 == 0 ? signed(ROOT, t / 8) : null;
        }
        return kind == EXACT || kind == CUBED ? signed(kind, 8 * t) : null;
    }

    private int become(int how, int c, int into) {
        cell(c, into);
        return cameOrNot(became(how, cells[c]), into);
    }

    public int root(int c, int into) {
        return become(1, c, into);
    }

    public int cube(int c, int into) {
        return become(2, c, into);
    }

    public int twice(int c, int into) {
        return become(3, c, into);
    }

    public int half(int c, int into) {
        return become(4, c, into);
    }

    public int eightfold(int c, int into) {
        return become(5, c, into);
    }

    public int all(int how) {
        in(how, 1, 5);
        acts++;
        int could = 0;
        for (int c = 0; c < 8; c++) {
            Number next = became(how, cells[c]);
            if (next != null) {
                cells[c] = next;
                could++;
            }
        }
        return could;
    }

    /** The cube of the TRUE number, times 512. */
    private static BigInteger cubed(Number n) {
        BigInteger t = BigInteger.valueOf(n.t);
        return n.kind == EXACT || n.kind == CUBED ? t.pow(3) : t.multiply(BigInteger.valueOf(64));
    }

    private static boolean ahead(Number one, Number other) {
        if (one.equals(other)) {
            return false;
        }
        if (one.kind == ENDLESS) {
            return one.below;
        }
        if (other.kind == ENDLESS) {
            return !other.below;
        }
        int by = cubed(one).compareTo(cubed(other));
        return by < 0 || (by == 0 && one.t == 0 && one.below && !other.below);
    }

    public int end(boolean greatest, int into) {
        cell(into);
        for (Number one : cells) {
            boolean none = true;
            for (Number other : cells) {
                none &= greatest ? !ahead(one, other) : !ahead(other, one);
            }
            if (none) {
                return came(one, into);
            }
        }
        throw new AssertionError("no end");
    }

    public int sort() {
        Number[] sorted = cells.clone();
        java.util.Arrays.sort(sorted, (a, b) -> ahead(a, b) ? -1 : ahead(b, a) ? 1 : 0);
        acts++;
        int changed = 0;
        for (int c = 0; c < 8; c++) {
            changed += cells[c].equals(sorted[c]) ? 0 : 1;
            cells[c] = sorted[c];
        }
        return changed;
    }

    public int kind(int c) {
        cell(c);
        return cells[c].kind;
    }

    public int of(int c) {
        cell(c);
        Number n = cells[c];
        return n.kind != ENDLESS ? n.t : n.below ? -1000000 : 1000000;
    }

    public boolean isBelow(int c) {
        cell(c);
        return cells[c].below;
    }

    private static BigInteger big(long n) {
        return BigInteger.valueOf(n);
    }

    /** The greatest w with w * w * w * parts not above n. */
    private static BigInteger icbrt(BigInteger n, BigInteger parts) {
        BigInteger low = BigInteger.ZERO;
        BigInteger high = BigInteger.ONE.shiftLeft(64);
        while (high.subtract(low).bitLength() > 1) {
            BigInteger middle = low.add(high).shiftRight(1);
            if (middle.pow(3).multiply(parts).compareTo(n) <= 0) {
                low = middle;
            } else {
                high = middle;
            }
        }
        return low;
    }

    /** The TRUE number times up / down, rounded down. */
    private static BigInteger floor(Number n, BigInteger up, BigInteger down) {
        if (n.kind == EXACT) {
            BigInteger[] parts = big(n.t).multiply(up).divideAndRemainder(down.multiply(big(8)));
            return parts[1].signum() < 0 ? parts[0].subtract(BigInteger.ONE) : parts[0];
        }
        BigInteger w = icbrt(big(Math.abs(n.t)).multiply(up.pow(3)), down.pow(3).multiply(big(8)));
        return n.t < 0 ? w.negate().subtract(BigInteger.ONE) : w;
    }

    static BigInteger wholeOf(Number n, int k) {
        return floor(n, BigInteger.ONE.shiftLeft(Math.max(k, 0)), BigInteger.ONE.shiftLeft(Math.max(-k, 0)));
    }

    private static int fits(BigInteger w) {
        so(w.bitLength() <= 31);
        return w.intValue();
    }

    private boolean told(int c) {
        return cells[c].kind == EXACT || cells[c].kind == ROOT;
    }

    private boolean tall(int c) {
        return told(c) && cells[c].t != 0;
    }

    public int whole(int c, int k) {
        cell(c);
        in(k, -20, 40);
        so(told(c));
        return fits(wholeOf(cells[c], k));
    }

    public int decimals(int c, int d) {
        cell(c);
        in(d, 0, 3);
        so(told(c));
        return fits(floor(cells[c], BigInteger.TEN.pow(d), BigInteger.ONE));
    }

    private static Number size(Number n) {
        return new Number(n.kind, Math.abs(n.t), false);
    }

    public int height(int c) {
        cell(c);
        so(tall(c));
        int h = -30;
        while (!wholeOf(size(cells[c]), -h).equals(BigInteger.ONE)) {
            h++;
        }
        return h;
    }

    public int digits(int c) {
        int h = height(c);
        return fits(wholeOf(size(cells[c]), 30 - h));
    }

    private long bits(int c) {
        Number n = cells[c];
        double size = n.kind == ENDLESS ? Double.POSITIVE_INFINITY : Math.abs(n.t) / 8.0;
        return Double.doubleToLongBits(n.below ? -size : size);
    }

    public int upper(int c) {
        cell(c);
        so(cells[c].kind <= ENDLESS);
        return (int) (bits(c) >>> 32);
    }

    public int lower(int c) {
        cell(c);
        so(cells[c].kind <= ENDLESS);
        return (int) bits(c);
    }

    public String text(int c) {
        cell(c);
        Number n = cells[c];
        if (n.kind == ENDLESS || n.t == 0) {
            return (n.below ? "-" : "") + (n.kind == ENDLESS ? "endless" : "zero");
        }
        return new String[] {"eighths", "", "root", "cubed", "again"}[n.kind] + " " + n.t;
    }

    private boolean near(int one, int other) {
        Number a = cells[one];
        Number b = cells[other];
        return a.kind != b.kind && a.kind != ENDLESS && b.kind != ENDLESS && cubed(a).equals(cubed(b));
    }

    public int order(int one, int other) {
        cell(one, other);
        return ahead(cells[one], cells[other]) ? -1 : ahead(cells[other], cells[one]) ? 1
                : near(one, other) ? 2 : 0;
    }

    public boolean isAlike(int one, int other) {
        cell(one, other);
        return cells[one].equals(cells[other]);
    }

    public boolean isNear(int one, int other) {
        cell(one, other);
        return near(one, other);
    }

    public int most(int one, int other) {
        cell(one, other);
        so(near(one, other));
        return cells[one].kind == EXACT || cells[one].kind == CUBED ? 4 : 1;
    }

    public boolean isWithin(int one, int other) {
        cell(one, other);
        so(near(one, other));
        return true;
    }

    public int find(int c, boolean last) {
        cell(c);
        for (int i = 0; i < 8; i++) {
            int at = last ? 7 - i : i;
            if (cells[at].equals(cells[c])) {
                return at;
            }
        }
        throw new AssertionError("not found");
    }

    public int rank(int c) {
        cell(c);
        int rank = 0;
        for (Number n : cells) {
            rank += ahead(n, cells[c]) ? 1 : 0;
        }
        return rank;
    }

    public int rootWhole(int t, int k) {
        in(ofSet(t) ? 0 : 1, 0, 0);
        in(k, -20, 40);
        return fits(wholeOf(became(1, exact(t)), k));
    }

    public int wholePart(int n) {
        in(n, 0, 65535);
        int w = 0;
        while ((w + 1) * (w + 1) * (w + 1) <= n) {
            w++;
        }
        return w;
    }

    public boolean isCube(int t) {
        in(t, -65535, 65535);
        return base(t) != 1000;
    }

    public int rootOfCube(int a) {
        in(a, 0, 208000);
        return a;
    }

    public int product(int a, int b) {
        in(a, -128, 128);
        in(b, -128, 128);
        return a * b;
    }

    private static java.util.List<Integer> waysOf(int n) {
        java.util.List<Integer> ways = new java.util.ArrayList<>();
        for (int a = 1; a <= 41; a++) {
            for (int b = a; b <= 41; b++) {
                if (a * a * a + b * b * b == n) {
                    ways.add(a);
                }
            }
        }
        return ways;
    }

    public int ways(int n) {
        in(n, 0, 65535);
        return waysOf(n).size();
    }

    public int way(int n, int i) {
        in(n, 0, 65535);
        in(i, 0, 9);
        return i < waysOf(n).size() ? waysOf(n).get(i) : -1;
    }

    public int twoWays(int from, int many) {
        in(from, 0, 65535);
        in(many, 0, 100);
        in(from + many, 0, 65536);
        int found = 0;
        for (int n = from; n < from + many; n++) {
            found += waysOf(n).size() >= 2 ? 1 : 0;
        }
        return found;
    }

    public int stepsUp(int from, int many) {
        in(from, 0, 65535);
        in(many, 0, 200);
        in(from + many, 0, 65535);
        int cubes = 0;
        for (int a = 1; a <= 41; a++) {
            cubes += a * a * a > from && a * a * a <= from + many ? 1 : 0;
        }
        return cubes;
    }

    public int nextStep(int n) {
        in(n, 0, 8000);
        int a = 0;
        while (a * a * a <= n) {
            a++;
        }
        return a * a * a;
    }

    public boolean rises(boolean units, int from, int many) {
        in(from, -65535, 65535);
        in(many, 0, 200);
        in(from + many, -65535, 65535);
        return true;
    }

    public boolean opposite(int t) {
        in(t, -65535, 65535);
        return true;
    }

    public boolean eight(int t) {
        in(t, -65535, 65535);
        return true;
    }

    public boolean comesNear(int t) {
        in(t, 1, 65535);
        return true;
    }

    public int below(int from, int many, int n, int k) {
        in(from, -65535, 65535);
        in(many, 0, 200);
        in(from + many, -65535, 65536);
        in(k, -20, 40);
        int found = 0;
        for (int t = from; t < from + many; t++) {
            // t / 8 less than n * n * n * 2^(-3 * k), both sides times a power of two
            BigInteger left = big(t).shiftLeft(Math.max(3 * k, 0));
            BigInteger right = big(n).pow(3).shiftLeft(3 + Math.max(-3 * k, 0));
            found += left.compareTo(right) < 0 ? 1 : 0;
        }
        return found;
    }

    public int house(int what) {
        in(what, 0, 4);
        int exacts = 0;
        int nears = 0;
        for (int i = 0; i < 8; i++) {
            exacts += cells[i].kind == EXACT ? 1 : 0;
            for (int j = 0; j < i; j++) {
                nears += near(i, j) ? 1 : 0;
            }
        }
        return new int[] {acts, refused, knocks, exacts, nears}[what];
    }

    public int knock() {
        return ++knocks;
    }

    public boolean isSound() {
        return true;
    }

    public long digest() {
        long d = 7919;
        for (int c = 0; c < 8; c++) {
            d = d * 31 + kind(c);
            d = d * 31 + of(c);
            d = d * 31 + (isBelow(c) ? 1 : 0);
            d = d * 31 + (told(c) ? decimals(c, 3) : 0);
            if (tall(c)) {
                d = d * 31 + height(c);
                d = d * 31 + digits(c);
            } else {
                d = d * 31;
            }
            if (cells[c].kind <= ENDLESS) {
                d = d * 31 + upper(c);
                d = d * 31 + lower(c);
            } else {
                d = d * 31;
            }
            d = d * 31 + find(c, false);
            d = d * 31 + find(c, true);
            d = d * 31 + rank(c);
        }
        for (int i = 0; i < 8; i++) {
            for (int j = i + 1; j < 8; j++) {
                d = d * 31 + order(i, j);
            }
        }
        for (int what = 0; what < 5; what++) {
            d = d * 31 + house(what);
        }
        return d * 31 + (isSound() ? 1 : 0);
    }
}
