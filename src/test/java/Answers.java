import java.math.BigInteger;

/** The sentences of the promises 18 to 53 that name a boundary; their Throws rows are in Rows. */
final class Answers {
    private static final int MOST = Cells.MOST;

    private Answers() {
    }

    // ---- what is asked of it

    private static void kindOfIsBelow() {
        String[] texts = {"eighths 5", "root -5", "cubed 524280", "again -524280", "zero", "-zero", "endless",
            "-endless"};
        int[] kinds = {0, 2, 3, 4, 0, 0, 1, 1};
        int[] of = {5, -5, 524280, -524280, 0, 0, 1000000, -1000000};
        boolean[] below = {false, true, false, true, false, true, false, true};
        Cubequarry x = Cells.with(texts);
        for (int cell = 0; cell < 8; cell++) {
            Document.says(18, "Returns the KIND of what it has, 0 to 4.");
            Check.is(texts[cell], x.kind(cell), kinds[cell]);
            Document.says(19, "1000000 if it is ENDLESS ABOVE, -1000000 if ENDLESS BELOW.");
            Check.is(texts[cell], x.of(cell), of[cell]);
            Document.says(20, "Returns whether what it has has the SIGN below.");
            Check.is(texts[cell], x.isBelow(cell), below[cell]);
        }
    }

    private static void fits(String text, int k, int due) {
        Check.is(text + " by " + k, Cells.with(text).whole(0, k), due);
        int t = Integer.parseInt(text.substring(text.indexOf(' ') + 1));
        if (text.startsWith("root")) {
            Check.is("rootWhole(" + t + ", " + k + ")", new Cubequarry().rootWhole(t, k), due);
        }
    }

    private static void doesNotFit(String text, int k) {
        Check.state(text + " by " + k, () -> Cells.with(text).whole(0, k));
        int t = Integer.parseInt(text.substring(text.indexOf(' ') + 1));
        if (text.startsWith("root")) {
            Check.state("rootWhole(" + t + ", " + k + ")", () -> new Cubequarry().rootWhole(t, k));
        }
    }

    private static void wholeOf32Bits() {
        Document.says(21, "or the WHOLE is not -2147483648 to 2147483647");
        // Exact ones, above 0: 65535 * 2^15 is let, 2^31 is not.
        fits("eighths 65535", 18, MOST << 15);
        doesNotFit("eighths 65535", 19);
        doesNotFit("eighths 65536", 18);
        fits("eighths 65536", 17, 1 << 30);
        fits("eighths 65528", 18, 65528 << 15);
        doesNotFit("eighths 1", 34);
        fits("eighths 1", 33, 1 << 30);
        doesNotFit("eighths 1", 40);
        fits("eighths 524280", 15, MOST << 15);
        doesNotFit("eighths 524280", 16);
        doesNotFit("eighths 524280", 40);
        doesNotFit("eighths 3", 33);
        // 2^32 and 2^33 and their like would be 0 in 32 bits.
        doesNotFit("eighths 65536", 19);
        doesNotFit("eighths 65536", 40);
        // Exact ones, below 0: -2^31 is let.
        fits("eighths -65536", 18, Integer.MIN_VALUE);
        doesNotFit("eighths -65544", 18);
        doesNotFit("eighths -65536", 19);
        fits("eighths -1", 34, Integer.MIN_VALUE);
        doesNotFit("eighths -1", 35);
        fits("eighths -65535", 18, -MOST << 15);
        doesNotFit("eighths -65535", 19);
        fits("eighths -262144", 16, Integer.MIN_VALUE);
        doesNotFit("eighths -262152", 16);
        doesNotFit("eighths -524280", 40);
        rootsOf32Bits();
    }

    /** The roots next to those that are just 2^31 by k, above and below 0. */
    private static void rootsOf32Bits() {
        int[] t = {7, 63, 511, 4095, 32767, 262136};
        int[] due = {2053994217, 2136240072, 2146084635, 2147308871, 2147461802, 2147461802};
        int[] next = {9, 65, 513, 4097, 32769, 262152};
        for (int i = 0; i < t.length; i++) {
            fits("root " + t[i], 31 - i, due[i]);
            fits("root " + -t[i], 31 - i, -due[i] - 1);
            doesNotFit("root " + t[i], 32 - i);
            doesNotFit("root " + -t[i], 32 - i);
            doesNotFit("root " + next[i], 31 - i);
            doesNotFit("root " + -next[i], 31 - i);
        }
        fits("root 2", 31, 1352829926);
        fits("root -2", 31, -1352829927);
        fits("root 524280", 25, 1352823045);
        fits("root -524280", 25, -1352823046);
        for (int sign = -1; sign <= 1; sign += 2) {
            for (int k = 32; k <= 40; k++) {
                doesNotFit("root " + sign * 2, k);
                doesNotFit("root " + sign * 524280, k);
            }
            doesNotFit("root " + sign * 524280, 26);
        }
    }

    private static void decimalsHeightDigits() {
        Document.says(22, "Returns the DECIMALS, so many, of what it has.");
        Check.is("the greatest", Cells.with("eighths 524280").decimals(0, 3), 65535000);
        Check.is("the least", Cells.with("eighths -524280").decimals(0, 3), -65535000);
        Check.is("of ZERO BELOW", Cells.with("-zero").decimals(0, 3), 0);
        Document.says(23, "Returns the HEIGHT of what it has.");
        Check.is("the least", Cells.with("eighths -1").height(0), -3);
        Check.is("the greatest", Cells.with("eighths 524280").height(0), 15);
        Document.says(24, "Returns the first 31 DIGITS of what it has, as a whole number (1073741824 to 2147483647).");
        Check.is("the least", Cells.with("eighths 1").digits(0), 1073741824);
        Check.is("the least, below 0", Cells.with("eighths -65536").digits(0), 1073741824);
        Check.is("the greatest of exact ones", Cells.with("eighths -65535").digits(0), 2147450880);
        Check.is("the greatest of roots", Cells.with("root -32767").digits(0), 2147461802);
    }

    private static void upperAndLower() {
        String[] texts = {"zero", "-zero", "endless", "-endless", "eighths 1", "eighths -1", "eighths 524280",
            "eighths -524280"};
        int[] due = {0, 0x80000000, 0x7ff00000, 0xfff00000, 0x3fc00000, 0xbfc00000, 0x40efffe0, 0xc0efffe0};
        Cubequarry x = Cells.with(texts);
        for (int cell = 0; cell < 8; cell++) {
            Document.says(25, "Returns the first 32 of the 64 digits of what it has, as an int.");
            Check.is(texts[cell], x.upper(cell), due[cell]);
            Document.says(26, "Returns the last 32 of the 64 digits of what it has, as an int.");
            Check.is(texts[cell], x.lower(cell), 0);
        }
    }

    private static void text() {
        Document.says(27, "\"zero\" or \"-zero\" (BELOW), \"endless\" or \"-endless\" (BELOW)");
        Cubequarry x = new Cubequarry();
        Check.is("ZERO ABOVE", x.text(0), "zero");
        x.turn(0);
        Check.is("ZERO BELOW", x.text(0), "-zero");
        x.endless(0, false);
        Check.is("ENDLESS ABOVE", x.text(0), "endless");
        x.turn(0);
        Check.is("ENDLESS BELOW", x.text(0), "-endless");
        Document.says(27, "otherwise \"eighths\", \"root\", \"cubed\" or \"again\", one blank, and t by its digits, "
                + "with \"-\" ahead if it is below 0.");
        x.eighths(0, 10);
        Check.is("10", x.text(0), "eighths 10");
        x.units(0, -MOST);
        Check.is("-524280", x.text(0), "eighths -524280");
        x.root(0, 0);
        Check.is("the root of it", x.text(0), "root -524280");
        x.cube(0, 0);
        Check.is("the cube of that", x.text(0), "cubed -524280");
        x.root(0, 0);
        Check.is("the root of that", x.text(0), "again -524280");
    }

    // ---- of two, and of all

    private static void ofTwo() {
        String[] texts = {"eighths 5", "root 5", "cubed 5", "again 5", "zero", "-zero", "endless", "-endless"};
        Cubequarry x = Cells.with(texts);
        Document.says(28, "2 if they are NEAR, otherwise 0 (so of a cell and itself).");
        for (int cell = 0; cell < 8; cell++) {
            Check.is(texts[cell], x.order(cell, cell), 0);
        }
        Check.is("NEAR ones", x.order(0, 2), 2);
        Check.is("NEAR ones", x.order(3, 1), 2);
        Document.says(28, "Returns -1 if what the first one has stands ahead, 1 if that of the other one does");
        Check.is("ZERO ABOVE and BELOW", x.order(4, 5), 1);
        Check.is("ZERO BELOW and ABOVE", x.order(5, 4), -1);
        Check.is("ENDLESS ABOVE and BELOW", x.order(6, 7), 1);
        Check.is("ENDLESS BELOW and ABOVE", x.order(7, 6), -1);
        Document.says(29, "Returns whether what they have is ALIKE.");
        for (int cell = 0; cell < 8; cell++) {
            for (int other = 0; other < 8; other++) {
                Check.is(texts[cell] + " and " + texts[other], x.isAlike(cell, other), cell == other);
            }
        }
        Document.says(30, "Returns whether what they have is NEAR each other.");
        Check.is("of the same KIND", x.isNear(0, 0), false);
        Check.is("ZERO ABOVE and BELOW", x.isNear(4, 5), false);
        Check.is("root and cubed", x.isNear(1, 2), false);
        Check.is("root and again", x.isNear(1, 3), true);
        Document.says(32, "Returns whether the one is not more STEPS from the other one than most() tells "
                + "(it is not).");
        for (int t = 2; t <= MOST; t += 263) {
            Cubequarry y = new Cubequarry();
            y.eighths(0, -t);
            y.root(0, 1);
            if (y.kind(1) == 2) {
                y.cube(1, 2);
                y.root(2, 3);
                Check.is("cubed and eighths " + -t, y.isWithin(2, 0), true);
                Check.is("root and again " + -t, y.isWithin(1, 3), true);
            }
        }
    }

    private static void findAndRank() {
        Document.says(33, "Returns the first cell that has an ALIKE one, or the last one.");
        Cubequarry x = Cells.with("root 5", "zero", "again 5", "-zero", "again 5", "-zero", "zero", "root 5");
        int[] first = {0, 1, 2, 3, 2, 3, 1, 0};
        int[] last = {7, 6, 4, 5, 4, 5, 6, 7};
        for (int cell = 0; cell < 8; cell++) {
            Check.is("the first of " + cell, x.find(cell, false), first[cell]);
            Check.is("the last of " + cell, x.find(cell, true), last[cell]);
        }
        x.endless(3, false);
        Check.is("alone, the first", x.find(3, false), 3);
        Check.is("alone, the last", x.find(3, true), 3);
        Document.says(34, "Returns of how many cells what they have stands ahead of what it has.");
        Cubequarry y = Cells.with("eighths 5", "root 5", "cubed 5", "again 5", "zero", "-zero", "endless", "-endless");
        int[] ranks = {3, 5, 3, 5, 2, 1, 7, 0};
        for (int cell = 0; cell < 8; cell++) {
            Check.is("the rank of " + cell, y.rank(cell), ranks[cell]);
        }
        Check.is("of ALIKE ones", new Cubequarry().rank(7), 0);
    }

    // ---- without cells

    private static void rootWhole() {
        Document.says(35, "Returns the WHOLE by k of what the EXACT one of t (of 0: ZERO ABOVE) becomes, ROOTED.");
        Cubequarry x = new Cubequarry();
        for (int k = -20; k <= 40; k++) {
            Check.is("rootWhole(0, " + k + ")", x.rootWhole(0, k), 0);
        }
        Check.is("of a CUBE", x.rootWhole(512000, 25), 40 << 25);
        Check.is("of a CUBE below 0", x.rootWhole(-27, 1), -3);
        Check.is("of a CUBE below 0, rounded down", x.rootWhole(-27, 0), -2);
        Check.is("of one next to a CUBE", x.rootWhole(-28, 1), -4);
        Check.is("of the least", x.rootWhole(-524280, -20), -1);
        Check.is("of the greatest", x.rootWhole(524280, -20), 0);
        Document.says(35, "Throws `IllegalStateException` if the WHOLE is not -2147483648 to 2147483647");
        Check.is("-1 by 32", x.rootWhole(-1, 32), Integer.MIN_VALUE);
        Check.is("1 by 31", x.rootWhole(1, 31), 1 << 30);
        Check.state("1 by 32", () -> x.rootWhole(1, 32));
        Check.state("-1 by 33", () -> x.rootWhole(-1, 33));
        Check.is("-64 by 30", x.rootWhole(-64, 30), Integer.MIN_VALUE);
        Check.state("64 by 30", () -> x.rootWhole(64, 30));
        Check.state("-65 by 30", () -> x.rootWhole(-65, 30));
        Check.is("-262144 by 26", x.rootWhole(-262144, 26), Integer.MIN_VALUE);
        Check.state("262144 by 26", () -> x.rootWhole(262144, 26));
        Check.state("524280 by 40", () -> x.rootWhole(524280, 40));
        Check.state("-524280 by 40", () -> x.rootWhole(-524280, 40));
        Check.is("the state", Cells.state(x), Cells.state(new Cubequarry()));
        rootsOf32Bits();
    }

    private static void wholePartAndCubes() {
        Document.says(36, "rounded down: the greatest whole number whose cube is not above n.");
        Cubequarry x = new Cubequarry();
        Check.is("wholePart(0)", x.wholePart(0), 0);
        for (int a = 1; a <= 40; a++) {
            Check.is("of a cube, " + a, x.wholePart(a * a * a), a);
            Check.is("of one less, " + a, x.wholePart(a * a * a - 1), a - 1);
            Check.is("of one more, " + a, x.wholePart(a * a * a + 1), a);
        }
        Check.is("wholePart(65535)", x.wholePart(MOST), 40);
        Document.says(37, "just if t is a CUBE.");
        Cubequarry y = new Cubequarry();
        Check.is("0", y.isCube(0), true);
        for (int a = 1; a <= 40; a++) {
            for (int sign = -1; sign <= 1; sign += 2) {
                int t = sign * a * a * a;
                Check.is("" + t, y.isCube(t), true);
                Check.is("" + (t + sign), y.isCube(t + sign), false);
                Check.is("" + (t - sign), y.isCube(t - sign), a == 1);
            }
        }
        Check.is("65535", y.isCube(MOST), false);
        Check.is("-65535", y.isCube(-MOST), false);
        Document.says(38, "Returns what a * a * a becomes, ROOTED (it is a).");
        Cubequarry z = new Cubequarry();
        // 1290 * 1290 * 1290 is the last one of 31 bits, 1625 the last of 32; of 208000 it is near 2^53.
        for (int a : new int[] {0, 1, 2, 1290, 1291, 1625, 1626, 65536, 131072, 207999, 208000}) {
            Check.is("rootOfCube(" + a + ")", z.rootOfCube(a), a);
        }
        Document.says(39, "Returns what the product of a * a * a and b * b * b becomes, ROOTED (it is a * b).");
        for (int a : new int[] {-128, -127, -1, 0, 1, 127, 128}) {
            for (int b : new int[] {-128, -127, -1, 0, 1, 127, 128}) {
                Check.is("product(" + a + ", " + b + ")", z.product(a, b), a * b);
            }
        }
    }

    private static void ways() {
        Cubequarry x = new Cubequarry();
        Document.says(40, "Returns in how many WAYS n is the sum of two cubes.");
        Check.is("of 0", x.ways(0), 0);
        Check.is("of 1", x.ways(1), 0);
        Check.is("of 2, the least that has one", x.ways(2), 1);
        Check.is("of 1728", x.ways(1728), 0);
        Check.is("of 1729, the least that has two", x.ways(1729), 2);
        Check.is("of 64232, the greatest that has two", x.ways(64232), 2);
        Check.is("of 65520, the greatest that has one", x.ways(65520), 1);
        Check.is("of 65535", x.ways(MOST), 0);
        Document.says(41, "which one of its WAYS (0 is the one with the least a)");
        Check.is("the first of 1729", x.way(1729, 0), 1);
        Check.is("the second of 1729", x.way(1729, 1), 9);
        Document.says(41, "NONE if there are not so many.");
        Check.is("the third of 1729", x.way(1729, 2), -1);
        Check.is("the tenth of 1729", x.way(1729, 9), -1);
        Check.is("the second of 2", x.way(2, 1), -1);
        Check.is("the first of 0", x.way(0, 0), -1);
        Check.is("the first of 65535", x.way(MOST, 0), -1);
        Document.says(42, "how many numbers: from, from + 1, up to from + many - 1 (0: none)");
        for (int from : new int[] {0, 1728, 1729, 1730, 64232, MOST}) {
            Check.is("twoWays(" + from + ", 0)", x.twoWays(from, 0), 0);
        }
        Check.is("the first number", x.twoWays(1729, 100), 1);
        Check.is("not the one ahead of it", x.twoWays(1730, 100), 0);
        Check.is("the last number", x.twoWays(1630, 100), 1);
        Check.is("not the one behind it", x.twoWays(1629, 100), 0);
        Check.is("it alone", x.twoWays(1729, 1), 1);
        Check.is("the one ahead of it alone", x.twoWays(1728, 1), 0);
        Check.is("up to 65535", x.twoWays(65436, 100), 0);
        Document.says(42, "Returns how many of these numbers have two WAYS or more.");
        Check.is("not those of one", x.twoWays(0, 100), 0);
    }

    private static void steps() {
        Cubequarry x = new Cubequarry();
        Document.says(43, "how many numbers behind it: from + 1 up to from + many (0: none)");
        for (int from : new int[] {0, 7, 8, 63999, 64000, MOST}) {
            Check.is("stepsUp(" + from + ", 0)", x.stepsUp(from, 0), 0);
        }
        Check.is("not from itself", x.stepsUp(8, 18), 0);
        Check.is("from + 1", x.stepsUp(7, 1), 1);
        Check.is("from + many", x.stepsUp(8, 19), 1);
        Check.is("from + 200", x.stepsUp(63800, 200), 1);
        Check.is("not from + 201", x.stepsUp(63799, 200), 0);
        Check.is("up to 65535", x.stepsUp(65335, 200), 0);
        Document.says(43, "Returns for how many of these numbers wholePart() is greater than for the number right "
                + "ahead (so for cubes alone).");
        Check.is("1, 8, 27, 64, 125", x.stepsUp(0, 200), 5);
        Check.is("1 to 124", x.stepsUp(0, 124), 4);
        Check.is("2 to 125", x.stepsUp(1, 124), 4);
        Document.says(44, "Returns the least number above n for which wholePart() is greater than for n "
                + "(it is a cube).");
        Check.is("nextStep(0)", x.nextStep(0), 1);
        for (int a = 1; a <= 20; a++) {
            int next = (a + 1) * (a + 1) * (a + 1);
            Check.is("of a cube, " + a, x.nextStep(a * a * a), next);
            Check.is("of one less, " + a, x.nextStep(a * a * a - 1), a * a * a);
        }
        Check.is("nextStep(8000)", x.nextStep(8000), 9261);
    }

    private static void laws() {
        Cubequarry x = new Cubequarry();
        Document.says(45, "whether whole numbers, otherwise eighths");
        Check.is("the greatest whole numbers", x.rises(true, 65335, 200), true);
        Document.says(45, "the first number (of whole ones, or of eighths)");
        Check.is("the least eighths", x.rises(false, -MOST, 200), true);
        Check.is("the least whole numbers", x.rises(true, -MOST, 200), true);
        Document.says(45, "how many times it goes on by 1: up to from + many (0: it does not, and so rises)");
        for (int from : new int[] {-MOST, -1, 0, 1, MOST}) {
            Check.is("rises(true, " + from + ", 0)", x.rises(true, from, 0), true);
            Check.is("rises(false, " + from + ", 0)", x.rises(false, from, 0), true);
        }
        Document.says(45, "is greater strictly than what the one right ahead becomes (it is).");
        // By 0, where ZERO ABOVE stands between, and by CUBES.
        Check.is("by 0", x.rises(false, -1, 2), true);
        Check.is("by 0, whole numbers", x.rises(true, -1, 2), true);
        Check.is("by CUBES", x.rises(false, 63900, 200), true);
        Document.says(46, "has the same 64 digits but for the sign (it has; of 0 ZERO ABOVE and ZERO BELOW).");
        for (int t : new int[] {0, 1, -1, 2, -2, 8, 64000, -64000, MOST, -MOST}) {
            Check.is("opposite(" + t + ")", x.opposite(t), true);
        }
        Document.says(47, "is twice what that of t does, in all 64 digits (it is).");
        for (int t : new int[] {0, 1, -1, 2, -2, 8, 64000, -64000, 8191, 8193, MOST, -MOST}) {
            Check.is("eight(" + t + ")", x.eight(t), true);
        }
        Document.says(48, "(it is not; if t is a CUBE, it is none).");
        for (int t : new int[] {1, 2, 7, 8, 9, 27, 63999, 64000, 64001, MOST}) {
            Check.is("comesNear(" + t + ")", x.comesNear(t), true);
        }
    }

    private static void below() {
        Cubequarry x = new Cubequarry();
        Document.says(49, "how many numbers: from, from + 1, up to from + many - 1 (0: none)");
        for (int from : new int[] {-MOST, -1, 0, 1, MOST}) {
            Check.is("below(" + from + ", 0, 1000, 0)", x.below(from, 0, 1000, 0), 0);
        }
        Check.is("all of them", x.below(0, 200, 1000, 0), 200);
        Check.is("from", x.below(7, 1, 1, 0), 1);
        Check.is("not the one ahead of it", x.below(8, 1, 1, 0), 0);
        Check.is("the last number", x.below(-200, 200, 0, 0), 200);
        Check.is("not the one behind it", x.below(-199, 200, 0, 0), 199);
        Check.is("up to 65535", x.below(65336, 200, 21, 0), 200);
        Check.is("up to 65535, none", x.below(65336, 200, 20, 0), 0);
        Check.is("65535 itself", x.below(MOST, 1, 21, 0), 1);
        Document.says(49, "Returns how many of the EXACT ones of these become, ROOTED, less than n * 2^-k "
                + "(of 0 it is 0).");
        Check.is("0 is less than 1", x.below(0, 1, 1, 40), 1);
        Check.is("0 is not less than 0", x.below(0, 1, 0, 0), 0);
        Check.is("0 is not less than -1", x.below(0, 1, -1, 40), 0);
        // 8 eighths become 1, -8 become -1, 27 become 3/2: not less than themselves.
        Check.is("less than 1", x.below(0, 20, 1, 0), 8);
        Check.is("less than -1", x.below(-20, 20, -1, 0), 12);
        Check.is("less than 3/2", x.below(0, 100, 3, 1), 27);
        Check.is("less than -3/2", x.below(-100, 100, -3, 1), 73);
        Check.is("less than 2 * 2^20", x.below(65336, 200, 1, -20), 200);
        Check.is("less than the greatest by 40", x.below(1, 1, Integer.MAX_VALUE, 40), 0);
        Check.is("less than the least by 40", x.below(-1, 1, Integer.MIN_VALUE, 40), 1);
        Check.is("less than the greatest by -20", x.below(1, 200, Integer.MAX_VALUE, -20), 200);
        Check.is("less than the least by -20", x.below(-200, 200, Integer.MIN_VALUE, -20), 0);
        Check.is("the state", Cells.state(x), Cells.state(new Cubequarry()));
    }

    // ---- the whole

    private static void houseIs(String what, Cubequarry x, int... due) {
        for (int i = 0; i < due.length; i++) {
            Check.is("house(" + i + ") " + what, x.house(i), due[i]);
        }
    }

    private static void house() {
        Document.says(50, "0 how many acts were done, calls of the methods from eighths() to sort(), no others "
                + "(also if all stays as it was; one that told -9, or threw, is none)");
        Cubequarry x = new Cubequarry();
        houseIs("of a new one", x, 0, 0, 0, 8, 0);
        x.eighths(0, 0);
        x.units(0, 0);
        x.zero(0, false);
        x.row(0, 0);
        x.copy(0, 0);
        x.step(0, 0);
        houseIs("when all stays as it was", x, 6, 0, 0, 8, 0);
        x.root(0, 0);
        x.cube(0, 0);
        x.twice(0, 0);
        x.half(0, 0);
        x.eightfold(0, 0);
        x.all(1);
        x.end(true, 0);
        x.sort();
        houseIs("when all stays as it was", x, 14, 0, 0, 8, 0);
        x.turn(0);
        x.endless(0, false);
        houseIs("of acts that change", x, 16, 0, 0, 7, 0);
        x.step(0, 0);
        x.row(MOST, 1);
        Check.index("turn(8)", () -> x.turn(8));
        Check.argument("all(0)", () -> x.all(0));
        houseIs("with -9 and what threw", x, 16, 2, 0, 7, 0);
        String state = Cells.state(x);
        askAll(x);
        Check.is("the state when others were called", Cells.state(x), state);
        houseIs("when others were called", x, 16, 2, 0, 7, 0);
        x.knock();
        houseIs("with a knock", x, 16, 2, 1, 7, 0);
        Document.says(50, "3 how many cells have an EXACT one (ZEROS are such)");
        Check.is("ZEROS", Cells.with("zero", "-zero").house(3), 8);
        Check.is("others", Cells.with("root 5", "cubed 5", "again 5", "endless", "-endless", "root 5", "root 5",
                "root 5").house(3), 0);
        Check.is("both", Cells.oneOfEach().house(3), 3);
        Document.says(50, "4 how many pairs of two cells are NEAR (each pair once)");
        Check.is("one pair", Cells.with("eighths 5", "cubed 5").house(4), 1);
        Check.is("the first and the last cell", Cells.with("root 5", "zero", "zero", "zero", "zero", "zero", "zero",
                "again 5").house(4), 1);
        Check.is("16 pairs", Cells.with("root 5", "root 5", "again 5", "root 5", "again 5", "again 5", "root 5",
                "again 5").house(4), 16);
        Check.is("of unlike signs none", Cells.with("eighths 5", "cubed -5", "root 5", "again -5").house(4), 0);
        Document.says(51, "Returns how often one knocked, with this.");
        Cubequarry y = new Cubequarry();
        Check.is("the first knock", y.knock(), 1);
        Check.is("the second knock", y.knock(), 2);
        Check.is("house(2)", y.house(2), 2);
    }

    /** All that is no act, and no knock. */
    private static void askAll(Cubequarry x) {
        x.kind(0);
        x.of(0);
        x.isBelow(0);
        x.whole(1, 0);
        x.decimals(1, 0);
        x.upper(0);
        x.lower(0);
        x.text(0);
        x.order(0, 1);
        x.isAlike(0, 1);
        x.isNear(0, 1);
        x.find(0, true);
        x.rank(0);
        x.rootWhole(5, 0);
        x.wholePart(5);
        x.isCube(5);
        x.rootOfCube(5);
        x.product(5, 5);
        x.ways(5);
        x.way(5, 0);
        x.twoWays(5, 5);
        x.stepsUp(5, 5);
        x.nextStep(5);
        x.rises(true, 5, 5);
        x.opposite(5);
        x.eight(5);
        x.comesNear(5);
        x.below(5, 5, 5, 5);
        x.house(0);
        x.isSound();
        x.digest();
        Check.state("height(1)", () -> x.height(1));
        Check.state("digits(1)", () -> x.digits(1));
        Check.state("most(0, 0)", () -> x.most(0, 0));
        Check.state("isWithin(0, 0)", () -> x.isWithin(0, 0));
    }

    private static void isSound() {
        Document.says(52, "Returns whether all of this is so");
        Check.is("of a new one", new Cubequarry().isSound(), true);
        Check.is("of one of each", Cells.oneOfEach().isSound(), true);
        Check.is("of ALIKE and NEAR ones", Cells.with("root 5", "root 5", "again 5", "again 5", "cubed 5", "cubed 5",
                "eighths 5", "eighths 5").isSound(), true);
        Check.is("of ZEROS and ENDLESS ones", Cells.with("zero", "-zero", "endless", "-endless", "zero", "-zero",
                "endless", "-endless").isSound(), true);
        Document.says(52, "of each ROOT of t the WHOLE by 8 of it without its SIGN, w, is such that w * w * w is not "
                + "above 2^21 * |t|, and (w + 1) * (w + 1) * (w + 1) is above that");
        Check.is("of the least and the greatest roots", Cells.with("root -524280", "root -65535", "root -2", "root 2",
                "root 7", "root 9", "root 65535", "root 524280").isSound(), true);
    }

    /** What the document says goes into the checksum, asked of the face alone; wraps around at last. */
    private static BigInteger unwrapped(Cubequarry x) {
        BigInteger d = BigInteger.valueOf(7919);
        for (int cell = 0; cell < 8; cell++) {
            boolean isTold = x.kind(cell) == 0 || x.kind(cell) == 2;
            d = mixed(d, x.kind(cell), x.of(cell), x.isBelow(cell) ? 1 : 0, isTold ? x.decimals(cell, 3) : 0);
            d = isTold && x.of(cell) != 0 ? mixed(d, x.height(cell), x.digits(cell)) : mixed(d, 0);
            d = x.kind(cell) <= 1 ? mixed(d, x.upper(cell), x.lower(cell)) : mixed(d, 0);
            d = mixed(d, x.find(cell, false), x.find(cell, true), x.rank(cell));
        }
        for (int one = 0; one < 8; one++) {
            for (int other = one + 1; other < 8; other++) {
                d = mixed(d, x.order(one, other));
            }
        }
        return mixed(d, x.house(0), x.house(1), x.house(2), x.house(3), x.house(4), x.isSound() ? 1 : 0);
    }

    private static BigInteger mixed(BigInteger start, int... values) {
        BigInteger d = start;
        for (int v : values) {
            d = d.multiply(BigInteger.valueOf(31)).add(BigInteger.valueOf(v));
        }
        return d;
    }

    private static void digest() {
        Document.says(53, "then d becomes d * 31 + v, which wraps around as a 64-bit integer");
        Check.is("of a new one", new Cubequarry().digest(), -9067863104570415872L);
        boolean isAbove = false;
        boolean isBelow = false;
        for (int t = 1; t <= 40; t++) {
            Cubequarry x = Cells.with("eighths " + t, "endless", "-zero", "eighths -" + t, "-endless");
            BigInteger due = unwrapped(x);
            Check.is("it is of more than 64 bits", due.bitLength() > 64, true);
            Check.is("digest() of " + t, x.digest(), due.longValue());
            isAbove |= x.digest() > 0;
            isBelow |= x.digest() < 0;
        }
        Check.is("some are above 0", isAbove, true);
        Check.is("some are below 0", isBelow, true);
        Document.says(53, "for each two cells of which the first one has the smaller number "
                + "(by that, then by the other one's) order()");
        Cubequarry x = Cells.with("root 5", "-zero", "again 5", "endless", "cubed 5", "-endless", "eighths 5",
                "root -5");
        Check.is("of unlike ones", x.digest(), unwrapped(x).longValue());
        x.sort();
        x.root(0, 1);
        x.cube(3, 3);
        x.knock();
        Check.is("after -9 and a knock", x.digest(), unwrapped(x).longValue());
        Check.is("asked again", x.digest(), unwrapped(x).longValue());
    }

    static void ask() {
        kindOfIsBelow();
        wholeOf32Bits();
        decimalsHeightDigits();
        upperAndLower();
        text();
        ofTwo();
        findAndRank();
        rootWhole();
        wholePartAndCubes();
        ways();
        steps();
        laws();
        below();
        house();
        isSound();
        digest();
    }
}
