/** Each promise by its number: ordinary inputs, the edges that the document names, wrong inputs. */
final class Promises {
    private static final int MOST = 65535;

    private Promises() {
    }

    private static Cubequarry fresh(int promise) {
        Check.promise(promise);
        return new Cubequarry();
    }

    /** The texts of all eight cells, with blanks between them as slashes. */
    private static String texts(Cubequarry x) {
        StringBuilder texts = new StringBuilder();
        for (int i = 0; i < 8; i++) {
            texts.append(i == 0 ? "" : "/").append(x.text(i));
        }
        return texts.toString();
    }

    private static void counted(Cubequarry x, int acts, int notDone) {
        Check.is("house(0)", x.house(0), acts);
        Check.is("house(1)", x.house(1), notDone);
    }

    /** eighths 5, root 5, cubed 5, again 5, eighths 8, zero, endless, -endless. */
    private static Cubequarry mixed(int promise) {
        Cubequarry x = fresh(promise);
        x.eighths(0, 5);
        x.root(0, 1);
        x.cube(1, 2);
        x.root(2, 3);
        x.units(4, 1);
        x.endless(6, false);
        x.endless(7, true);
        return x;
    }

    private static void creation() {
        Cubequarry x = fresh(1);
        Check.is("texts", texts(x), "zero/zero/zero/zero/zero/zero/zero/zero");
        Check.is("isBelow", x.isBelow(7), false);
        Check.is("house(3)", x.house(3), 8);
        counted(x, 0, 0);
    }

    private static void eighths() {
        Cubequarry x = fresh(2);
        Check.is("eighths(0, 5)", x.eighths(0, 5), 1);
        Check.is("eighths(0, 5) again", x.eighths(0, 5), 0);
        Check.is("eighths(7, -65535)", x.eighths(7, -MOST), 1);
        Check.is("eighths(6, 65535)", x.eighths(6, MOST), 1);
        x.zero(5, true);
        Check.is("eighths(5, 0)", x.eighths(5, 0), 1);
        Check.is("eighths(5, 0) again", x.eighths(5, 0), 0);
        Check.is("texts", texts(x), "eighths 5/zero/zero/zero/zero/zero/eighths 65535/eighths -65535");
        long digest = x.digest();
        Check.index("eighths(8, 0)", () -> x.eighths(8, 0));
        Check.index("eighths(-1, 65536)", () -> x.eighths(-1, MOST + 1));
        Check.argument("eighths(0, 65536)", () -> x.eighths(0, MOST + 1));
        Check.argument("eighths(0, -65536)", () -> x.eighths(0, -MOST - 1));
        Check.is("digest, as before", x.digest(), digest);
        counted(x, 7, 0);
    }

    private static void units() {
        Cubequarry x = fresh(3);
        Check.is("units(0, 1)", x.units(0, 1), 1);
        Check.is("eighths(0, 8)", x.eighths(0, 8), 0);
        Check.is("units(1, 65535)", x.units(1, MOST), 1);
        Check.is("units(2, -65535)", x.units(2, -MOST), 1);
        Check.is("units(3, 0)", x.units(3, 0), 0);
        Check.is("of(1)", x.of(1), 524280);
        Check.is("of(2)", x.of(2), -524280);
        long digest = x.digest();
        Check.index("units(8, 65536)", () -> x.units(8, MOST + 1));
        Check.argument("units(0, 65536)", () -> x.units(0, MOST + 1));
        Check.argument("units(0, -65536)", () -> x.units(0, -MOST - 1));
        Check.is("digest, as before", x.digest(), digest);
        counted(x, 5, 0);
    }

    private static void zerosAndEndless() {
        Cubequarry x = fresh(4);
        Check.is("zero(0, false)", x.zero(0, false), 0);
        Check.is("zero(0, true)", x.zero(0, true), 1);
        Check.is("zero(0, true) again", x.zero(0, true), 0);
        Check.is("text(0)", x.text(0), "-zero");
        Check.index("zero(8, true)", () -> x.zero(8, true));
        Check.index("zero(-1, true)", () -> x.zero(-1, true));
        counted(x, 3, 0);
        Cubequarry y = fresh(5);
        Check.is("endless(0, false)", y.endless(0, false), 1);
        Check.is("endless(0, true)", y.endless(0, true), 1);
        Check.is("endless(0, true) again", y.endless(0, true), 0);
        Check.is("text(0)", y.text(0), "-endless");
        Check.index("endless(8, true)", () -> y.endless(8, true));
        Check.index("endless(-1, true)", () -> y.endless(-1, true));
        counted(y, 3, 0);
    }

    private static void row() {
        Cubequarry x = fresh(6);
        x.zero(4, true);
        Check.is("row(-8, 2)", x.row(-8, 2), 8);
        Check.is("texts", texts(x), "eighths -8/eighths -6/eighths -4/eighths -2/zero/eighths 2/eighths 4/eighths 6");
        Check.is("row(-4, 1)", x.row(-4, 1), 7);
        Check.is("row(-65535, 8192)", x.row(-MOST, 8192), 8);
        Check.is("of(7)", x.of(7), -8191);
        Check.is("row(65535, -8192)", x.row(MOST, -8192), 8);
        Check.is("row(8191, 8192)", x.row(8191, 8192), 8);
        long digest = x.digest();
        Check.argument("row(65536, 0)", () -> x.row(MOST + 1, 0));
        Check.argument("row(-65536, 0)", () -> x.row(-MOST - 1, 0));
        Check.argument("row(0, 8193)", () -> x.row(0, 8193));
        Check.argument("row(0, -8193)", () -> x.row(0, -8193));
        Check.is("digest, as before", x.digest(), digest);
        counted(x, 6, 0);
        Check.is("row(8192, 8192)", x.row(8192, 8192), -9);
        Check.is("row(-8192, -8192)", x.row(-8192, -8192), -9);
        Check.is("of(0)", x.of(0), 8191);
        counted(x, 6, 2);
    }

    private static void copy() {
        Cubequarry x = mixed(7);
        Check.is("copy(3, 5)", x.copy(3, 5), 1);
        Check.is("copy(3, 5) again", x.copy(3, 5), 0);
        Check.is("copy(2, 2)", x.copy(2, 2), 0);
        x.turn(3);
        Check.is("text(5)", x.text(5), "again 5");
        counted(x, 11, 0);
        Check.index("copy(8, 0)", () -> x.copy(8, 0));
        Check.index("copy(0, -1)", () -> x.copy(0, -1));
        counted(x, 11, 0);
    }

    private static void step() {
        Cubequarry x = mixed(8);
        Check.is("step(0, -3)", x.step(0, -3), 1);
        Check.is("of(0)", x.of(0), 2);
        Check.is("step(0, -2)", x.step(0, -2), 1);
        Check.is("text(0)", x.text(0), "zero");
        Check.is("step(0, 0)", x.step(0, 0), 0);
        x.zero(0, true);
        Check.is("step(0, 0) of -zero", x.step(0, 0), 1);
        Check.is("text(0)", x.text(0), "zero");
        Check.is("step of a root", x.step(1, 1), -9);
        Check.is("step of a cubed one", x.step(2, 1), -9);
        Check.is("step of an endless one", x.step(6, 0), -9);
        x.eighths(0, MOST);
        Check.is("step(0, 2)", x.step(0, 2), -9);
        Check.is("step(0, 1)", x.step(0, 1), 1);
        Check.is("step(0, 65535)", x.step(0, MOST), -9);
        Check.is("step(0, -65535)", x.step(0, -MOST), 1);
        Check.is("of(0)", x.of(0), 1);
        x.units(0, -MOST);
        Check.is("step(0, -8)", x.step(0, -8), -9);
        counted(x, 7 + 9, 6);
        Check.index("step(8, 65536)", () -> x.step(8, MOST + 1));
        Check.argument("step(1, 65536)", () -> x.step(1, MOST + 1));
        Check.argument("step(1, -65536)", () -> x.step(1, -MOST - 1));
        counted(x, 7 + 9, 6);
    }

    private static void turn() {
        Cubequarry x = mixed(9);
        for (int i = 0; i < 8; i++) {
            Check.is("turn", x.turn(i), 1);
        }
        Check.is("texts", texts(x), "eighths -5/root -5/cubed -5/again -5/eighths -8/-zero/-endless/endless");
        Check.is("isBelow(3)", x.isBelow(3), true);
        x.turn(5);
        x.turn(3);
        Check.is("text(5)", x.text(5), "zero");
        Check.is("isBelow(3)", x.isBelow(3), false);
        counted(x, 17, 0);
        Check.index("turn(8)", () -> x.turn(8));
        Check.index("turn(-1)", () -> x.turn(-1));
        counted(x, 17, 0);
    }

    private static void root() {
        Cubequarry x = mixed(10);
        Check.is("root(0, 0)", x.root(0, 0), 1);
        Check.is("root(4, 4)", x.root(4, 4), 0);
        Check.is("root(5, 5)", x.root(5, 5), 0);
        Check.is("root(7, 6)", x.root(7, 6), 1);
        Check.is("root(2, 2)", x.root(2, 2), 1);
        Check.is("texts", texts(x), "root 5/root 5/again 5/again 5/eighths 8/zero/-endless/-endless");
        Check.is("root of a root", x.root(1, 0), -9);
        Check.is("root of an again", x.root(3, 0), -9);
        counted(x, 12, 2);
        x.eighths(0, -27);
        Check.is("root(0, 1)", x.root(0, 1), 1);
        Check.is("text(1)", x.text(1), "eighths -12");
        x.eighths(0, 1);
        x.root(0, 0);
        Check.is("text(0)", x.text(0), "eighths 4");
        x.units(0, 64000);
        Check.is("root(0, 0)", x.root(0, 0), 1);
        Check.is("text(0)", x.text(0), "eighths 320");
        x.zero(0, true);
        Check.is("root of -zero", x.root(0, 1), 1);
        Check.is("text(1)", x.text(1), "-zero");
        Check.index("root(8, 0)", () -> x.root(8, 0));
        Check.index("root(0, 8)", () -> x.root(0, 8));
        Check.index("root(3, -1)", () -> x.root(3, -1));
    }

    private static void cube() {
        Cubequarry x = mixed(11);
        Check.is("cube of an exact one", x.cube(0, 5), -9);
        Check.is("cube of a root", x.cube(1, 5), 1);
        Check.is("text(5)", x.text(5), "cubed 5");
        Check.is("cube of a cubed one", x.cube(2, 5), -9);
        Check.is("cube of an again", x.cube(3, 5), -9);
        Check.is("cube of one", x.cube(4, 4), 0);
        Check.is("text(4)", x.text(4), "eighths 8");
        Check.is("cube of endless", x.cube(6, 7), 1);
        counted(x, 10, 3);
        x.eighths(0, -4);
        Check.is("cube(0, 0)", x.cube(0, 0), 1);
        Check.is("text(0)", x.text(0), "eighths -1");
        x.eighths(0, 6);
        Check.is("cube of 6 eighths", x.cube(0, 0), -9);
        x.eighths(0, 160);
        x.cube(0, 1);
        Check.is("text(1)", x.text(1), "eighths 64000");
        x.eighths(0, 164);
        Check.is("cube of 164 eighths", x.cube(0, 0), -9);
        x.eighths(0, -320);
        x.cube(0, 1);
        Check.is("text(1)", x.text(1), "eighths -512000");
        x.eighths(0, 328);
        Check.is("cube of 328 eighths", x.cube(0, 0), -9);
        x.units(0, MOST);
        Check.is("cube of 524280 eighths", x.cube(0, 0), -9);
        x.units(0, 65536 / 2);
        Check.is("cube of 262144 eighths", x.cube(0, 0), -9);
        x.zero(0, true);
        Check.is("cube of -zero", x.cube(0, 1), 1);
        Check.is("text(1)", x.text(1), "-zero");
        Check.index("cube(8, 0)", () -> x.cube(8, 0));
        Check.index("cube(0, 8)", () -> x.cube(0, 8));
        Check.index("cube(3, -1)", () -> x.cube(3, -1));
    }

    private static void twice() {
        Cubequarry x = mixed(12);
        Check.is("twice(0, 5)", x.twice(0, 5), 1);
        Check.is("text(5)", x.text(5), "eighths 10");
        Check.is("twice(1, 5)", x.twice(1, 5), 1);
        Check.is("text(5)", x.text(5), "root 40");
        Check.is("twice of a cubed one", x.twice(2, 5), -9);
        Check.is("twice of an again", x.twice(3, 5), -9);
        Check.is("twice of endless", x.twice(6, 6), 0);
        counted(x, 10, 2);
        x.eighths(0, 32768);
        Check.is("twice of 32768 eighths", x.twice(0, 1), 1);
        x.eighths(0, -MOST);
        Check.is("twice of -65535 eighths", x.twice(0, 1), -9);
        x.root(0, 0);
        Check.is("twice of root -65535", x.twice(0, 0), 1);
        Check.is("text(0)", x.text(0), "root -524280");
        Check.is("twice of root -524280", x.twice(0, 0), -9);
        x.units(0, 32767);
        Check.is("twice of 262136 eighths", x.twice(0, 0), 1);
        Check.is("text(0)", x.text(0), "eighths 524272");
        Check.is("twice of 524272 eighths", x.twice(0, 0), -9);
        x.zero(0, true);
        Check.is("twice of -zero", x.twice(0, 0), 0);
        Check.index("twice(8, 0)", () -> x.twice(8, 0));
        Check.index("twice(2, 8)", () -> x.twice(2, 8));
    }

    private static void half() {
        Cubequarry x = mixed(13);
        Check.is("half of 5 eighths", x.half(0, 5), -9);
        Check.is("half of 8 eighths", x.half(4, 5), 1);
        Check.is("text(5)", x.text(5), "eighths 4");
        Check.is("half of root 5", x.half(1, 5), -9);
        Check.is("half of a cubed one", x.half(2, 5), -9);
        Check.is("half of an again", x.half(3, 5), -9);
        Check.is("half of endless", x.half(6, 5), 1);
        counted(x, 9, 4);
        x.units(0, -5);
        x.root(0, 0);
        Check.is("half of root -40", x.half(0, 0), 1);
        Check.is("text(0)", x.text(0), "root -5");
        x.units(0, MOST);
        Check.is("half of 524280 eighths", x.half(0, 0), -9);
        x.root(0, 0);
        Check.is("half of root 524280", x.half(0, 0), 1);
        Check.is("text(0)", x.text(0), "root 65535");
        x.units(0, -16382);
        Check.is("half of -131056 eighths", x.half(0, 0), 1);
        x.units(0, 16383);
        Check.is("half of 131064 eighths", x.half(0, 0), 1);
        Check.is("text(0)", x.text(0), "eighths 65532");
        x.units(0, 16385);
        Check.is("half of 131080 eighths", x.half(0, 0), -9);
        x.eighths(0, -3);
        Check.is("half of -3 eighths", x.half(0, 0), -9);
        x.zero(0, true);
        Check.is("half of -zero", x.half(0, 0), 0);
        Check.index("half(8, 0)", () -> x.half(8, 0));
        Check.index("half(0, -1)", () -> x.half(0, -1));
    }

    private static void eightfold() {
        Cubequarry x = mixed(14);
        Check.is("eightfold(0, 5)", x.eightfold(0, 5), 1);
        Check.is("text(5)", x.text(5), "eighths 40");
        Check.is("eightfold(2, 5)", x.eightfold(2, 5), 1);
        Check.is("text(5)", x.text(5), "cubed 40");
        Check.is("eightfold of a root", x.eightfold(1, 5), -9);
        Check.is("eightfold of an again", x.eightfold(3, 5), -9);
        Check.is("eightfold of endless", x.eightfold(7, 7), 0);
        counted(x, 10, 2);
        x.eighths(0, MOST);
        Check.is("eightfold of 65535 eighths", x.eightfold(0, 1), 1);
        Check.is("text(1)", x.text(1), "eighths 524280");
        Check.is("eightfold of 524280 eighths", x.eightfold(1, 1), -9);
        x.root(0, 0);
        x.cube(0, 0);
        Check.is("eightfold of cubed 65535", x.eightfold(0, 0), 1);
        Check.is("eightfold of cubed 524280", x.eightfold(0, 0), -9);
        x.units(0, 8192);
        Check.is("eightfold of 65536 eighths", x.eightfold(0, 0), -9);
        x.zero(0, true);
        Check.is("eightfold of -zero", x.eightfold(0, 0), 0);
        Check.index("eightfold(8, 0)", () -> x.eightfold(8, 0));
        Check.index("eightfold(1, 8)", () -> x.eightfold(1, 8));
    }

    private static void all() {
        String[] due = {
            "root 5/root 5/again 5/again 5/eighths 8/zero/endless/-endless",
            "eighths 5/cubed 5/cubed 5/again 5/eighths 8/zero/endless/-endless",
            "eighths 10/root 40/cubed 5/again 5/eighths 16/zero/endless/-endless",
            "eighths 5/root 5/cubed 5/again 5/eighths 4/zero/endless/-endless",
            "eighths 40/root 5/cubed 40/again 5/eighths 64/zero/endless/-endless"};
        int[] could = {6, 5, 6, 4, 6};
        for (int how = 1; how <= 5; how++) {
            Cubequarry x = mixed(15);
            // 8 eighths are a CUBE, the cube of 2: their root is 4 * 2 eighths, the same.
            Check.is("all(" + how + ")", x.all(how), could[how - 1]);
            Check.is("texts", texts(x), due[how - 1]);
            counted(x, 8, 0);
        }
        Cubequarry x = fresh(15);
        x.row(1, 2);
        Check.is("all(4), which none can", x.all(4), 0);
        counted(x, 2, 0);
        Check.argument("all(0)", () -> x.all(0));
        Check.argument("all(6)", () -> x.all(6));
        counted(x, 2, 0);
    }

    private static void end() {
        Cubequarry x = fresh(16);
        x.row(5, -1);
        x.root(0, 7);
        x.zero(6, true);
        Check.is("end(false, 0)", x.end(false, 0), 1);
        Check.is("text(0)", x.text(0), "-zero");
        Check.is("end(true, 1)", x.end(true, 1), 1);
        Check.is("text(1), not near, but greater", x.text(1), "root 5");
        Check.is("end(true, 1) again", x.end(true, 1), 0);
        counted(x, 6, 0);
        Cubequarry y = mixed(16);
        y.endless(6, true);
        y.eighths(7, 1);
        y.copy(1, 6);
        y.eighths(4, 5);
        Check.is("end(true, 5)", y.end(true, 5), 1);
        Check.is("text(5), the smallest cell of near ones", y.text(5), "root 5");
        y.copy(3, 0);
        y.end(true, 7);
        Check.is("text(7), the smallest cell of near ones", y.text(7), "again 5");
        y.row(0, 0);
        y.endless(3, true);
        y.endless(5, false);
        y.end(false, 0);
        y.end(true, 1);
        Check.is("texts", texts(y), "-endless/endless/zero/-endless/zero/endless/zero/zero");
        Check.index("end(true, 8)", () -> y.end(true, 8));
        Check.index("end(false, -1)", () -> y.end(false, -1));
    }

    private static void sort() {
        Cubequarry x = mixed(17);
        x.zero(4, true);
        x.copy(3, 0);
        // again 5, root 5, cubed 5, again 5, -zero, zero, endless, -endless
        Check.is("sort()", x.sort(), 8);
        Check.is("texts", texts(x), "-endless/-zero/zero/cubed 5/again 5/root 5/again 5/endless");
        Check.is("sort() again", x.sort(), 0);
        counted(x, 11, 0);
        Cubequarry y = fresh(17);
        y.row(7, -1);
        Check.is("sort()", y.sort(), 8);
        Check.is("texts", texts(y),
                "zero/eighths 1/eighths 2/eighths 3/eighths 4/eighths 5/eighths 6/eighths 7");
    }

    private static void kindOfIsBelow() {
        Cubequarry x = mixed(18);
        int[] kinds = {0, 2, 3, 4, 0, 0, 1, 1};
        int[] of = {5, 5, 5, 5, 8, 0, 1000000, -1000000};
        for (int i = 0; i < 8; i++) {
            Check.promise(18);
            Check.is("kind(" + i + ")", x.kind(i), kinds[i]);
            Check.promise(19);
            Check.is("of(" + i + ")", x.of(i), of[i]);
            Check.promise(20);
            Check.is("isBelow(" + i + ")", x.isBelow(i), i == 7);
        }
        x.turn(2);
        x.zero(5, true);
        Check.is("isBelow(2)", x.isBelow(2), true);
        Check.is("isBelow(5)", x.isBelow(5), true);
        Check.index("isBelow(8)", () -> x.isBelow(8));
        Check.index("isBelow(-1)", () -> x.isBelow(-1));
        Check.promise(18);
        Check.index("kind(8)", () -> x.kind(8));
        Check.index("kind(-1)", () -> x.kind(-1));
        Check.promise(19);
        Check.is("of(2)", x.of(2), -5);
        Check.index("of(8)", () -> x.of(8));
        Check.index("of(-1)", () -> x.of(-1));
    }

    private static void whole() {
        Cubequarry x = mixed(21);
        x.eighths(4, -5);
        x.root(4, 5);
        Check.is("whole(0, 0)", x.whole(0, 0), 0);
        Check.is("whole(0, 3)", x.whole(0, 3), 5);
        Check.is("whole(4, 0)", x.whole(4, 0), -1);
        Check.is("whole(4, 2)", x.whole(4, 2), -3);
        Check.is("whole(4, 3)", x.whole(4, 3), -5);
        // The cube root of 0.625 is 0.854987973338348...
        Check.is("whole(1, 0)", x.whole(1, 0), 0);
        Check.is("whole(1, 10)", x.whole(1, 10), 875);
        Check.is("whole(5, 10)", x.whole(5, 10), -876);
        Check.is("whole(1, -20)", x.whole(1, -20), 0);
        Check.is("whole(5, -20)", x.whole(5, -20), -1);
        Check.is("whole(1, 31)", x.whole(1, 31), 1836072691);
        Check.is("whole(5, 31)", x.whole(5, 31), -1836072692);
        Check.is("whole(0, 31)", x.whole(0, 31), 1342177280);
        Check.state("whole(1, 32)", () -> x.whole(1, 32));
        Check.state("whole(5, 32)", () -> x.whole(5, 32));
        Check.state("whole(1, 40)", () -> x.whole(1, 40));
        Check.state("whole(0, 32)", () -> x.whole(0, 32));
        x.units(0, -2);
        Check.is("whole(0, 30)", x.whole(0, 30), Integer.MIN_VALUE);
        x.units(0, 2);
        Check.state("2 by 2^30", () -> x.whole(0, 30));
        x.zero(0, true);
        Check.is("whole of -zero", x.whole(0, 40), 0);
        Check.state("whole of a cubed one", () -> x.whole(2, 0));
        Check.state("whole of an again", () -> x.whole(3, 0));
        Check.state("whole of endless", () -> x.whole(6, 0));
        Check.index("whole(8, 41)", () -> x.whole(8, 41));
        Check.argument("whole(6, 41)", () -> x.whole(6, 41));
        Check.argument("whole(0, -21)", () -> x.whole(0, -21));
    }

    private static void decimals() {
        Cubequarry x = mixed(22);
        x.eighths(4, -5);
        x.root(4, 5);
        int[] exact = {0, 6, 62, 625};
        int[] exactBelow = {-1, -7, -63, -625};
        int[] root = {0, 8, 85, 854};
        int[] rootBelow = {-1, -9, -86, -855};
        for (int d = 0; d <= 3; d++) {
            Check.is("decimals(0, " + d + ")", x.decimals(0, d), exact[d]);
            Check.is("decimals(4, " + d + ")", x.decimals(4, d), exactBelow[d]);
            Check.is("decimals(1, " + d + ")", x.decimals(1, d), root[d]);
            Check.is("decimals(5, " + d + ")", x.decimals(5, d), rootBelow[d]);
        }
        x.units(0, MOST);
        Check.is("decimals(0, 3)", x.decimals(0, 3), 65535000);
        x.root(0, 0);
        Check.is("decimals(0, 3)", x.decimals(0, 3), 40317);
        x.zero(0, true);
        Check.is("decimals of -zero", x.decimals(0, 3), 0);
        Check.state("decimals of a cubed one", () -> x.decimals(2, 0));
        Check.state("decimals of an again", () -> x.decimals(3, 0));
        Check.state("decimals of endless", () -> x.decimals(7, 0));
        Check.index("decimals(8, 4)", () -> x.decimals(8, 4));
        Check.argument("decimals(6, 4)", () -> x.decimals(6, 4));
        Check.argument("decimals(0, -1)", () -> x.decimals(0, -1));
    }

    private static void heightAndDigits() {
        Cubequarry x = fresh(23);
        int[] t = {1, 7, 8, MOST, -9, 2, 63, -65};
        int[] exactHeights = {-3, -1, 0, 12, 0, -2, 2, 3};
        int[] rootHeights = {-1, -1, 0, 4, 0, -1, 0, 1};
        int[] exactDigits = {1073741824, 1879048192, 1073741824, 2147450880, 1207959552, 1073741824,
            2113929216, 1090519040};
        int[] rootDigits = {1073741824, 2053994217, 1073741824, 1352823045, 1116736499, 1352829926,
            2136240072, 1079305352};
        for (int i = 0; i < 8; i++) {
            Cubequarry y = fresh(23);
            y.eighths(0, t[i]);
            Check.is("height of " + t[i], y.height(0), exactHeights[i]);
            y.root(0, 1);
            Check.is("height of the root of " + t[i], y.height(1), rootHeights[i]);
            Check.promise(24);
            Check.is("digits of " + t[i], y.digits(0), exactDigits[i]);
            Check.is("digits of the root of " + t[i], y.digits(1), rootDigits[i]);
        }
        Cubequarry y = mixed(24);
        for (int cell : new int[] {2, 3, 5, 6, 7}) {
            Check.promise(23);
            Check.state("height(" + cell + ")", () -> y.height(cell));
            Check.promise(24);
            Check.state("digits(" + cell + ")", () -> y.digits(cell));
        }
        Check.index("digits(8)", () -> x.digits(8));
        Check.index("digits(-1)", () -> x.digits(-1));
        Check.promise(23);
        Check.index("height(8)", () -> x.height(8));
        Check.index("height(-1)", () -> x.height(-1));
    }

    private static void upperAndLower() {
        Cubequarry x = fresh(25);
        for (int t = -MOST; t <= MOST; t += 5) {
            Cubequarry y = fresh(25);
            y.eighths(0, t);
            y.units(1, t);
            long bits = Double.doubleToLongBits(t / 8.0);
            long bitsOfUnits = Double.doubleToLongBits(t);
            Check.is("upper of " + t, y.upper(0), (int) (bits >> 32));
            Check.is("upper of units " + t, y.upper(1), (int) (bitsOfUnits >> 32));
            Check.promise(26);
            Check.is("lower of " + t, y.lower(0), (int) bits);
            Check.is("lower of units " + t, y.lower(1), (int) bitsOfUnits);
        }
        x.endless(1, false);
        x.endless(2, true);
        x.zero(3, true);
        x.eighths(4, 5);
        x.root(4, 4);
        x.cube(4, 5);
        x.root(5, 6);
        int[] uppers = {0, 0x7ff00000, 0xfff00000, 0x80000000};
        for (int i = 0; i < 4; i++) {
            Check.promise(25);
            Check.is("upper(" + i + ")", x.upper(i), uppers[i]);
            Check.promise(26);
            Check.is("lower(" + i + ")", x.lower(i), 0);
        }
        for (int cell : new int[] {4, 5, 6}) {
            Check.promise(25);
            Check.state("upper(" + cell + ")", () -> x.upper(cell));
            Check.promise(26);
            Check.state("lower(" + cell + ")", () -> x.lower(cell));
        }
        Check.index("lower(8)", () -> x.lower(8));
        Check.index("lower(-1)", () -> x.lower(-1));
        Check.promise(25);
        Check.index("upper(8)", () -> x.upper(8));
        Check.index("upper(-1)", () -> x.upper(-1));
    }

    private static void text() {
        Cubequarry x = mixed(27);
        Check.is("texts", texts(x), "eighths 5/root 5/cubed 5/again 5/eighths 8/zero/endless/-endless");
        x.all(1);
        x.turn(0);
        x.zero(5, true);
        x.units(1, -MOST);
        Check.is("texts", texts(x),
                "root -5/eighths -524280/again 5/again 5/eighths 8/-zero/endless/-endless");
        Check.index("text(8)", () -> x.text(8));
        Check.index("text(-1)", () -> x.text(-1));
    }

    private static void order() {
        Cubequarry x = mixed(28);
        int[][] due = {
            {0, -1, 2, -1, -1, 1, -1, 1},
            {1, 0, 1, 2, -1, 1, -1, 1},
            {2, -1, 0, -1, -1, 1, -1, 1},
            {1, 2, 1, 0, -1, 1, -1, 1},
            {1, 1, 1, 1, 0, 1, -1, 1},
            {-1, -1, -1, -1, -1, 0, -1, 1},
            {1, 1, 1, 1, 1, 1, 0, 1},
            {-1, -1, -1, -1, -1, -1, -1, 0}};
        for (int i = 0; i < 8; i++) {
            for (int j = 0; j < 8; j++) {
                Check.promise(28);
                Check.is("order(" + i + ", " + j + ")", x.order(i, j), due[i][j]);
                Check.promise(30);
                Check.is("isNear(" + i + ", " + j + ")", x.isNear(i, j), due[i][j] == 2);
                Check.promise(29);
                Check.is("isAlike(" + i + ", " + j + ")", x.isAlike(i, j), i == j);
            }
        }
        Check.promise(28);
        x.zero(0, true);
        Check.is("-zero and zero", x.order(0, 5), -1);
        Check.is("zero and -zero", x.order(5, 0), 1);
        // The root of 2 is 0.62996...: between 5 eighths and 6.
        x.eighths(0, 2);
        x.root(0, 0);
        x.eighths(1, 5);
        x.eighths(2, 6);
        Check.is("root 2 and eighths 5", x.order(0, 1), 1);
        Check.is("root 2 and eighths 6", x.order(0, 2), -1);
        x.turn(0);
        x.turn(1);
        Check.is("root -2 and eighths -5", x.order(0, 1), -1);
        Check.is("root -2 and eighths 6", x.order(0, 2), -1);
        Check.is("eighths 6 and root -2", x.order(2, 0), 1);
        Check.index("order(8, 0)", () -> x.order(8, 0));
        Check.index("order(0, -1)", () -> x.order(0, -1));
        Check.promise(29);
        Check.is("isAlike of zero and -zero", areZerosAlike(), false);
        x.copy(3, 7);
        Check.is("isAlike(3, 7)", x.isAlike(3, 7), true);
        x.turn(3);
        Check.is("isAlike(3, 7), turned", x.isAlike(3, 7), false);
        Check.index("isAlike(8, 0)", () -> x.isAlike(8, 0));
        Check.index("isAlike(0, 8)", () -> x.isAlike(0, 8));
        Check.promise(30);
        x.root(2, 2);
        Check.is("isNear of ones of the same kind", x.isNear(3, 7), false);
        Check.is("isNear of zeros", x.isNear(5, 5), false);
        Check.index("isNear(8, 0)", () -> x.isNear(8, 0));
        Check.index("isNear(0, 8)", () -> x.isNear(0, 8));
    }

    private static boolean areZerosAlike() {
        Cubequarry x = new Cubequarry();
        x.zero(0, true);
        return x.isAlike(0, 1);
    }

    private static void mostAndWithin() {
        Cubequarry x = mixed(31);
        Check.is("most(0, 2)", x.most(0, 2), 4);
        Check.is("most(2, 0)", x.most(2, 0), 4);
        Check.is("most(1, 3)", x.most(1, 3), 1);
        Check.is("most(3, 1)", x.most(3, 1), 1);
        Check.state("most(0, 1)", () -> x.most(0, 1));
        Check.state("most(2, 3)", () -> x.most(2, 3));
        Check.state("most(2, 2)", () -> x.most(2, 2));
        Check.state("most(5, 6)", () -> x.most(5, 6));
        Check.index("most(8, 8)", () -> x.most(8, 8));
        Check.index("most(0, -1)", () -> x.most(0, -1));
        Check.promise(32);
        Check.is("isWithin(0, 2)", x.isWithin(0, 2), true);
        Check.is("isWithin(3, 1)", x.isWithin(3, 1), true);
        x.turn(3);
        x.turn(1);
        Check.is("isWithin(3, 1), both turned", x.isWithin(3, 1), true);
        Check.state("isWithin(0, 1)", () -> x.isWithin(0, 1));
        Check.state("isWithin(5, 5)", () -> x.isWithin(5, 5));
        x.turn(0);
        Check.state("isWithin(0, 2), one turned", () -> x.isWithin(0, 2));
        Check.index("isWithin(8, 8)", () -> x.isWithin(8, 8));
        Check.index("isWithin(0, -1)", () -> x.isWithin(0, -1));
    }

    private static void findAndRank() {
        Cubequarry x = fresh(33);
        x.row(0, 0);
        x.zero(3, true);
        x.zero(5, true);
        x.zero(6, true);
        Check.is("find(5, false)", x.find(5, false), 3);
        Check.is("find(5, true)", x.find(5, true), 6);
        Check.is("find(4, false)", x.find(4, false), 0);
        Check.is("find(4, true)", x.find(4, true), 7);
        x.endless(2, true);
        Check.is("find(2, false)", x.find(2, false), 2);
        Check.is("find(2, true)", x.find(2, true), 2);
        Check.index("find(8, true)", () -> x.find(8, true));
        Check.index("find(-1, false)", () -> x.find(-1, false));
        Cubequarry y = mixed(34);
        int[] due = {2, 4, 2, 4, 6, 1, 7, 0};
        for (int i = 0; i < 8; i++) {
            Check.is("rank(" + i + ")", y.rank(i), due[i]);
        }
        Check.index("rank(8)", () -> y.rank(8));
        Check.index("rank(-1)", () -> y.rank(-1));
    }

    private static void rootsOfNumbers() {
        Cubequarry x = fresh(35);
        Check.is("rootWhole(8, 0)", x.rootWhole(8, 0), 1);
        Check.is("rootWhole(-27, 1)", x.rootWhole(-27, 1), -3);
        Check.is("rootWhole(-27, 0)", x.rootWhole(-27, 0), -2);
        Check.is("rootWhole(-5, 31)", x.rootWhole(-5, 31), -1836072692);
        Check.is("rootWhole(0, 40)", x.rootWhole(0, 40), 0);
        Check.is("rootWhole(-1, 32)", x.rootWhole(-1, 32), Integer.MIN_VALUE);
        Check.is("rootWhole(524280, -20)", x.rootWhole(524280, -20), 0);
        Check.state("rootWhole(1, 32)", () -> x.rootWhole(1, 32));
        Check.state("rootWhole(-5, 32)", () -> x.rootWhole(-5, 32));
        Check.argument("rootWhole(524288, 0)", () -> x.rootWhole(524288, 0));
        Check.argument("rootWhole(-524288, 0)", () -> x.rootWhole(-524288, 0));
        Check.argument("rootWhole(65537, 0)", () -> x.rootWhole(65537, 0));
        Check.argument("rootWhole(the least, 0)", () -> x.rootWhole(Integer.MIN_VALUE, 0));
        Check.argument("rootWhole(1, 41)", () -> x.rootWhole(1, 41));
        Check.argument("rootWhole(1, -21)", () -> x.rootWhole(1, -21));
        fresh(36);
        int[] ns = {0, 1, 7, 8, 26, 27, 63999, 64000, MOST};
        int[] due = {0, 1, 1, 2, 2, 3, 39, 40, 40};
        for (int i = 0; i < ns.length; i++) {
            Check.is("wholePart(" + ns[i] + ")", x.wholePart(ns[i]), due[i]);
        }
        Check.argument("wholePart(-1)", () -> x.wholePart(-1));
        Check.argument("wholePart(65536)", () -> x.wholePart(MOST + 1));
        fresh(37);
        for (int t : new int[] {0, 1, -1, 8, -27, 64000, -64000}) {
            Check.is("isCube(" + t + ")", x.isCube(t), true);
        }
        for (int t : new int[] {2, -2, 7, 9, -26, 63999, 64001, MOST, -MOST}) {
            Check.is("isCube(" + t + ")", x.isCube(t), false);
        }
        Check.argument("isCube(65536)", () -> x.isCube(MOST + 1));
        Check.argument("isCube(-65536)", () -> x.isCube(-MOST - 1));
        fresh(38);
        Check.is("rootOfCube(208000)", x.rootOfCube(208000), 208000);
        Check.is("rootOfCube(207999)", x.rootOfCube(207999), 207999);
        Check.is("rootOfCube(0)", x.rootOfCube(0), 0);
        Check.argument("rootOfCube(208001)", () -> x.rootOfCube(208001));
        Check.argument("rootOfCube(-1)", () -> x.rootOfCube(-1));
        fresh(39);
        Check.is("product(-3, 5)", x.product(-3, 5), -15);
        Check.is("product(-128, -128)", x.product(-128, -128), 16384);
        Check.is("product(0, -128)", x.product(0, -128), 0);
        Check.argument("product(129, 0)", () -> x.product(129, 0));
        Check.argument("product(0, 129)", () -> x.product(0, 129));
        Check.argument("product(-129, 0)", () -> x.product(-129, 0));
        Check.argument("product(0, -129)", () -> x.product(0, -129));
    }

    private static void sumsOfTwoCubes() {
        Cubequarry x = fresh(40);
        int[] ns = {0, 1, 2, 9, 10, 16, 1729, 4104, 65533, MOST, 64232};
        int[] ways = {0, 0, 1, 1, 0, 1, 2, 2, 0, 0, 2};
        int[] first = {-1, -1, 1, 1, -1, 2, 1, 2, -1, -1, 17};
        int[] second = {-1, -1, -1, -1, -1, -1, 9, 9, -1, -1, 26};
        for (int i = 0; i < ns.length; i++) {
            int n = ns[i];
            Check.promise(40);
            Check.is("ways(" + n + ")", x.ways(n), ways[i]);
            Check.promise(41);
            Check.is("way(" + n + ", 0)", x.way(n, 0), first[i]);
            Check.is("way(" + n + ", 1)", x.way(n, 1), second[i]);
            Check.is("way(" + n + ", 9)", x.way(n, 9), -1);
        }
        Check.is("way(59582, 0)", x.way(59582, 0), 31);
        Check.argument("way(-1, 0)", () -> x.way(-1, 0));
        Check.argument("way(65536, 0)", () -> x.way(MOST + 1, 0));
        Check.argument("way(0, -1)", () -> x.way(0, -1));
        Check.argument("way(0, 10)", () -> x.way(0, 10));
        Check.promise(40);
        Check.is("ways(59582), 31 and 31", x.ways(59582), 1);
        Check.is("ways(62559), 31 and 32", x.ways(62559), 1);
        Check.is("ways(64001), 1 and 40", x.ways(64001), 1);
        Check.argument("ways(-1)", () -> x.ways(-1));
        Check.argument("ways(65536)", () -> x.ways(MOST + 1));
        fresh(42);
        Check.is("twoWays(1729, 1)", x.twoWays(1729, 1), 1);
        Check.is("twoWays(1630, 100)", x.twoWays(1630, 100), 1);
        Check.is("twoWays(1629, 100)", x.twoWays(1629, 100), 0);
        Check.is("twoWays(1730, 100)", x.twoWays(1730, 100), 0);
        Check.is("twoWays(1729, 0)", x.twoWays(1729, 0), 0);
        Check.is("twoWays(65436, 100)", x.twoWays(65436, 100), 0);
        Check.is("twoWays(65535, 1)", x.twoWays(MOST, 1), 0);
        int all = 0;
        for (int from = 0; from <= MOST; from += 64) {
            all += x.twoWays(from, 64);
        }
        // 1729, 4104, 13832, 20683, 32832, 39312, 40033, 46683, 64232, 65728 is above
        Check.is("twoWays of all", all, 9);
        Check.argument("twoWays(-1, 0)", () -> x.twoWays(-1, 0));
        Check.argument("twoWays(65536, 0)", () -> x.twoWays(MOST + 1, 0));
        Check.argument("twoWays(0, -1)", () -> x.twoWays(0, -1));
        Check.argument("twoWays(0, 101)", () -> x.twoWays(0, 101));
        Check.argument("twoWays(65535, 2)", () -> x.twoWays(MOST, 2));
    }

    private static void steps() {
        Cubequarry x = fresh(43);
        Check.is("stepsUp(0, 200)", x.stepsUp(0, 200), 5);
        Check.is("stepsUp(1, 7)", x.stepsUp(1, 7), 1);
        Check.is("stepsUp(1, 6)", x.stepsUp(1, 6), 0);
        Check.is("stepsUp(8, 18)", x.stepsUp(8, 18), 0);
        Check.is("stepsUp(26, 1)", x.stepsUp(26, 1), 1);
        Check.is("stepsUp(26, 0)", x.stepsUp(26, 0), 0);
        Check.is("stepsUp(65535, 0)", x.stepsUp(MOST, 0), 0);
        Check.is("stepsUp(65335, 200)", x.stepsUp(65335, 200), 0);
        Check.is("stepsUp(63900, 200)", x.stepsUp(63900, 200), 1);
        Check.argument("stepsUp(-1, 0)", () -> x.stepsUp(-1, 0));
        Check.argument("stepsUp(65536, 0)", () -> x.stepsUp(MOST + 1, 0));
        Check.argument("stepsUp(0, -1)", () -> x.stepsUp(0, -1));
        Check.argument("stepsUp(0, 201)", () -> x.stepsUp(0, 201));
        Check.argument("stepsUp(65535, 1)", () -> x.stepsUp(MOST, 1));
        fresh(44);
        int[] ns = {0, 1, 7, 8, 26, 7999, 8000};
        int[] due = {1, 8, 8, 27, 27, 8000, 9261};
        for (int i = 0; i < ns.length; i++) {
            Check.is("nextStep(" + ns[i] + ")", x.nextStep(ns[i]), due[i]);
        }
        Check.argument("nextStep(-1)", () -> x.nextStep(-1));
        Check.argument("nextStep(8001)", () -> x.nextStep(8001));
    }

    private static void laws() {
        Cubequarry x = fresh(45);
        Check.is("rises(true, -100, 200)", x.rises(true, -100, 200), true);
        Check.is("rises(false, 65535, 0)", x.rises(false, MOST, 0), true);
        Check.argument("rises(true, -65536, 0)", () -> x.rises(true, -MOST - 1, 0));
        Check.argument("rises(true, 65536, 0)", () -> x.rises(true, MOST + 1, 0));
        Check.argument("rises(true, 0, -1)", () -> x.rises(true, 0, -1));
        Check.argument("rises(false, 0, 201)", () -> x.rises(false, 0, 201));
        Check.argument("rises(false, 65535, 1)", () -> x.rises(false, MOST, 1));
        fresh(46);
        Check.is("opposite(0)", x.opposite(0), true);
        Check.argument("opposite(65536)", () -> x.opposite(MOST + 1));
        Check.argument("opposite(-65536)", () -> x.opposite(-MOST - 1));
        fresh(47);
        Check.is("eight(0)", x.eight(0), true);
        Check.argument("eight(65536)", () -> x.eight(MOST + 1));
        Check.argument("eight(-65536)", () -> x.eight(-MOST - 1));
        fresh(48);
        Check.is("comesNear(65535)", x.comesNear(MOST), true);
        Check.argument("comesNear(0)", () -> x.comesNear(0));
        Check.argument("comesNear(65536)", () -> x.comesNear(MOST + 1));
    }

    private static void below() {
        Cubequarry x = fresh(49);
        Check.is("below(-5, 200, 0, 0)", x.below(-5, 200, 0, 0), 5);
        Check.is("below(0, 20, 1, 0)", x.below(0, 20, 1, 0), 8);
        Check.is("below(0, 20, 2, 1)", x.below(0, 20, 2, 1), 8);
        Check.is("below(0, 20, 3, 2)", x.below(0, 20, 3, 2), 4);
        Check.is("below(-20, 20, -1, 0)", x.below(-20, 20, -1, 0), 12);
        Check.is("below(-20, 20, -3, 2)", x.below(-20, 20, -3, 2), 17);
        Check.is("below(0, 1, 1, 40)", x.below(0, 1, 1, 40), 1);
        Check.is("below(1, 1, the greatest, 40)", x.below(1, 1, Integer.MAX_VALUE, 40), 0);
        Check.is("below(-2, 1, the least, 40)", x.below(-2, 1, Integer.MIN_VALUE, 40), 1);
        Check.is("below(-65535, 200, -1, -20)", x.below(-MOST, 200, -1, -20), 0);
        Check.is("below(65336, 200, 1, -20)", x.below(65336, 200, 1, -20), 200);
        Check.is("below(65535, 0, 0, 0)", x.below(MOST, 0, 0, 0), 0);
        Check.is("below(65535, 1, 21, 0)", x.below(MOST, 1, 21, 0), 1);
        Check.is("below(65535, 1, 20, 0)", x.below(MOST, 1, 20, 0), 0);
        Check.argument("below(-65536, 0, 0, 0)", () -> x.below(-MOST - 1, 0, 0, 0));
        Check.argument("below(65536, 0, 0, 0)", () -> x.below(MOST + 1, 0, 0, 0));
        Check.argument("below(0, -1, 0, 0)", () -> x.below(0, -1, 0, 0));
        Check.argument("below(0, 201, 0, 0)", () -> x.below(0, 201, 0, 0));
        Check.argument("below(65535, 2, 0, 0)", () -> x.below(MOST, 2, 0, 0));
        Check.argument("below(0, 0, 0, 41)", () -> x.below(0, 0, 0, 41));
        Check.argument("below(0, 0, 0, -21)", () -> x.below(0, 0, 0, -21));
    }

    private static void house() {
        Cubequarry x = mixed(50);
        x.cube(0, 0);
        x.kind(0);
        x.rootWhole(8, 0);
        x.copy(0, 5);
        x.knock();
        int[] due = {8, 1, 1, 3, 3};
        for (int what = 0; what <= 4; what++) {
            Check.is("house(" + what + ")", x.house(what), due[what]);
        }
        x.row(0, 0);
        x.zero(0, true);
        Check.is("house(3)", x.house(3), 8);
        Check.is("house(4)", x.house(4), 0);
        Check.argument("house(-1)", () -> x.house(-1));
        Check.argument("house(5)", () -> x.house(5));
        Cubequarry y = fresh(51);
        Check.is("knock()", y.knock(), 1);
        Check.is("knock()", y.knock(), 2);
        Check.is("house(2)", y.house(2), 2);
        counted(y, 0, 0);
    }

    private static void isSoundAndDigest() {
        Check.is("isSound() of a new one", fresh(52).isSound(), true);
        Check.is("isSound()", mixed(52).isSound(), true);
        Cubequarry x = mixed(52);
        for (int i = 0; i < 8; i++) {
            x.turn(i);
        }
        Check.is("isSound(), all turned", x.isSound(), true);
        Cubequarry y = fresh(53);
        Model model = new Model();
        Check.is("digest() of a new one", y.digest(), model.digest());
        y.row(-27, 7);
        model.row(-27, 7);
        y.all(1);
        model.all(1);
        Check.is("digest()", y.digest(), model.digest());
        Check.is("digest(), asked again", y.digest(), model.digest());
    }

    public static void main(String[] args) {
        creation();
        eighths();
        units();
        zerosAndEndless();
        row();
        copy();
        step();
        turn();
        root();
        cube();
        twice();
        half();
        eightfold();
        all();
        end();
        sort();
        kindOfIsBelow();
        whole();
        decimals();
        heightAndDigits();
        upperAndLower();
        text();
        order();
        mostAndWithin();
        findAndRank();
        rootsOfNumbers();
        sumsOfTwoCubes();
        steps();
        laws();
        below();
        house();
        isSoundAndDigest();
        Check.done("Promises");
    }
}
