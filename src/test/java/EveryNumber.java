import java.math.BigInteger;

/** What the document says of all numbers, asked of each one. */
final class EveryNumber {
    private static final int MOST = 65535;

    private EveryNumber() {
    }

    private static void withoutCells() {
        for (int t = -MOST; t <= MOST; t++) {
            Cubequarry x = new Cubequarry();
            Check.promise(46);
            Check.is("opposite(" + t + ")", x.opposite(t), true);
            Check.promise(47);
            Check.is("eight(" + t + ")", x.eight(t), true);
            if (t >= 1) {
                Check.promise(48);
                Check.is("comesNear(" + t + ")", x.comesNear(t), true);
            }
        }
    }

    private static void rise() {
        Check.promise(45);
        for (int from = -MOST; from < MOST; from += 200) {
            int many = Math.min(200, MOST - from);
            Cubequarry x = new Cubequarry();
            Check.is("rises(true, " + from + ", " + many + ")", x.rises(true, from, many), true);
            Check.is("rises(false, " + from + ", " + many + ")", x.rises(false, from, many), true);
        }
    }

    private static void cubes() {
        Check.promise(38);
        Cubequarry x = new Cubequarry();
        for (int a = 0; a <= 208000; a++) {
            x = a % 500 == 0 ? new Cubequarry() : x;
            Check.is("rootOfCube(" + a + ")", x.rootOfCube(a), a);
        }
        Check.promise(39);
        for (int a = -128; a <= 128; a++) {
            x = new Cubequarry();
            for (int b = -128; b <= 128; b++) {
                Check.is("product(" + a + ", " + b + ")", x.product(a, b), a * b);
            }
        }
    }

    /** A CUBED one and an AGAIN, of each t that has them, beside what they are NEAR to. */
    private static void near(int t, boolean isUnits) {
        Cubequarry x = new Cubequarry();
        if (isUnits) {
            x.units(0, t);
        } else {
            x.eighths(0, t);
        }
        x.root(0, 1);
        if (x.kind(1) != 2) {
            return;
        }
        x.cube(1, 2);
        x.root(2, 3);
        String of = " of " + x.of(0) + " eighths";
        Check.is("isWithin(0, 2)" + of, x.isWithin(0, 2), true);
        Check.is("isWithin(3, 1)" + of, x.isWithin(3, 1), true);
        Check.is("isSound()" + of, x.isSound(), true);
    }

    /** Whether w is the root of t eighths, times 2^k, rounded down: by cubes, times 8. */
    private static boolean isRoundedDown(long w, int t, int k) {
        BigInteger due = BigInteger.valueOf(t).shiftLeft(3 * k);
        BigInteger low = BigInteger.valueOf(w).pow(3).shiftLeft(3);
        BigInteger high = BigInteger.valueOf(w + 1).pow(3).shiftLeft(3);
        return low.compareTo(due) <= 0 && high.compareTo(due) > 0;
    }

    /** The WHOLES with the most digits, where the program needs numbers of more than 64 digits. */
    private static void longWholes() {
        Check.promise(35);
        for (int t = -8 * MOST; t <= 8 * MOST; t++) {
            if (Math.abs(t) > MOST && t % 8 != 0) {
                continue;
            }
            Cubequarry x = new Cubequarry();
            for (int k = 22; k <= 32; k++) {
                Check.is("rootWhole(" + t + ", " + k + ")", isWholeRight(x, t, k), true);
            }
        }
    }

    private static boolean isWholeRight(Cubequarry x, int t, int k) {
        try {
            return isRoundedDown(x.rootWhole(t, k), t, k);
        } catch (IllegalStateException e) {
            return BigInteger.valueOf(t).abs().shiftLeft(3 * k - 3).bitLength() > 93;
        }
    }

    public static void main(String[] args) {
        withoutCells();
        longWholes();
        rise();
        cubes();
        Check.promise(32);
        for (int t = -MOST; t <= MOST; t++) {
            near(t, false);
            near(t, true);
        }
        Check.done("EveryNumber");
    }
}
