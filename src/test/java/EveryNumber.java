/** What the document says of all numbers, asked of each one. */
final class EveryNumber {
    private static final int MOST = 65535;

    private EveryNumber() {
    }

    private static void withoutCells() {
        for (int t = -MOST; t <= MOST; t++) {
            Cubequarry x = new Cubequarry();
            Check.promise(46);
            Check.is("opposite(" + t + ")", x.opposite(t), true);
            Check.promise(47);
            Check.is("eight(" + t + ")", x.eight(t), true);
            if (t >= 1) {
                Check.promise(48);
                Check.is("comesNear(" + t + ")", x.comesNear(t), true);
            }
        }
    }

    private static void rise() {
        Check.promise(45);
        for (int from = -MOST; from < MOST; from += 200) {
            int many = Math.min(200, MOST - from);
            Cubequarry x = new Cubequarry();
            Check.is("rises(true, " + from + ", " + many + ")", x.rises(true, from, many), true);
            Check.is("rises(false, " + from + ", " + many + ")", x.rises(false, from, many), true);
        }
    }

    private static void cubes() {
        Check.promise(38);
        Cubequarry x = new Cubequarry();
        for (int a = 0; a <= 208000; a++) {
            x = a % 500 == 0 ? new Cubequarry() : x;
            Check.is("rootOfCube(" + a + ")", x.rootOfCube(a), a);
        }
        Check.promise(39);
        for (int a = -128; a <= 128; a++) {
            x = new Cubequarry();
            for (int b = -128; b <= 128; b++) {
                Check.is("product(" + a + ", " + b + ")", x.product(a, b), a * b);
            }
        }
    }

    /** A CUBED one and an AGAIN, of each t that has them, beside what they are NEAR to. */
    private static void near(int t, boolean isUnits) {
        Cubequarry x = new Cubequarry();
        if (isUnits) {
            x.units(0, t);
        } else {
            x.eighths(0, t);
        }
        x.root(0, 1);
        if (x.kind(1) != 2) {
            return;
        }
        x.cube(1, 2);
        x.root(2, 3);
        String of = " of " + x.of(0) + " eighths";
        Check.is("isWithin(0, 2)" + of, x.isWithin(0, 2), true);
        Check.is("isWithin(3, 1)" + of, x.isWithin(3, 1), true);
        Check.is("isSound()" + of, x.isSound(), true);
    }

    public static void main(String[] args) {
        withoutCells();
        rise();
        cubes();
        Check.promise(32);
        for (int t = -MOST; t <= MOST; t++) {
            near(t, false);
            near(t, true);
        }
        Check.done("EveryNumber");
    }
}
