import java.math.BigInteger;

/** What the document says ahead of its promises: its preface, and the sections 1 to 5. */
final class Sections {
    private static final int MOST = Cells.MOST;
    private static final String[] HOWS = {"", "ROOTED", "CUBED", "TWICE", "HALF", "EIGHT times"};
    private static final String[] STAYING = {"zero", "-zero", "endless", "-endless"};

    private Sections() {
    }

    // ---- what stands ahead

    private static void last512th() {
        Document.says("What it is", "An object is used for at most 512 calls after it has been made");
        Cubequarry x = new Cubequarry();
        for (int i = 1; i <= 511; i++) {
            Check.is("call " + i, x.eighths(0, i), 1);
        }
        Check.is("the 512th call, house(0)", x.house(0), 511);
        Cubequarry knocked = new Cubequarry();
        for (int i = 1; i <= 512; i++) {
            Check.is("knock " + i, knocked.knock(), i);
        }
        Cubequarry refusing = new Cubequarry();
        refusing.endless(0, true);
        for (int i = 2; i <= 511; i++) {
            Check.is("call " + i, refusing.step(0, 0), -9);
        }
        Check.is("the 512th call, house(1)", refusing.house(1), 510);
        Cubequarry throwing = new Cubequarry();
        for (int i = 1; i <= 511; i++) {
            Check.index("call " + i, () -> throwing.turn(8));
        }
        Check.is("the 512th call, digest()", throwing.digest(), new Cubequarry().digest());
        Cubequarry told = Cells.with();
        for (int i = 9; i <= 512; i++) {
            Check.is("call " + i, told.text(7), "zero");
        }
    }

    /** The 512th call is each method once, after 511 calls of which 255 turned the last cell round. */
    private static void any512th() {
        Document.says("What it is", "An object is used for at most 512 calls after it has been made");
        Model model = new Model();
        long digest = after511(model).digest();
        Check.is("digest()", after511(new Cubequarry()).digest(), digest);
        Check.is("eighths(7, -65535)", after511(new Cubequarry()).eighths(7, -MOST), 1);
        Check.is("row(1, 1)", after511(new Cubequarry()).row(1, 1), 8);
        Check.is("sort()", after511(new Cubequarry()).sort(), 8);
        Check.is("all(1)", after511(new Cubequarry()).all(1), 8);
        Check.is("end(true, 1)", after511(new Cubequarry()).end(true, 1), 1);
        Check.is("turn(0)", after511(new Cubequarry()).turn(0), 1);
        Check.is("cube(0, 0)", after511(new Cubequarry()).cube(0, 0), -9);
        Check.is("text(7)", after511(new Cubequarry()).text(7), "eighths -495");
        Check.is("whole(7, 3)", after511(new Cubequarry()).whole(7, 3), -495);
        Check.is("rank(7)", after511(new Cubequarry()).rank(7), 0);
        Check.is("order(0, 7)", after511(new Cubequarry()).order(0, 7), 1);
        Check.is("house(0)", after511(new Cubequarry()).house(0), 511);
        Check.is("isSound()", after511(new Cubequarry()).isSound(), true);
        Check.is("twoWays(1729, 1)", after511(new Cubequarry()).twoWays(1729, 1), 1);
        Check.is("rises(true, -100, 200)", after511(new Cubequarry()).rises(true, -100, 200), true);
        Check.is("below(-100, 200, 0, 0)", after511(new Cubequarry()).below(-100, 200, 0, 0), 100);
        Cubequarry x = after511(new Cubequarry());
        Check.index("kind(8)", () -> x.kind(8));
    }

    private static Cubequarry after511(Cubequarry x) {
        x.row(502, -1);
        for (int i = 2; i <= 511; i++) {
            x.turn(7);
            i++;
            x.copy(7, 7);
        }
        return x;
    }

    private static Model after511(Model x) {
        x.row(502, -1);
        for (int i = 2; i <= 511; i++) {
            x.turn(7);
            i++;
            x.copy(7, 7);
        }
        return x;
    }

    private static void preface() {
        Document.says("Description", "Whole numbers have 32 bits, if nothing else is said");
        Cubequarry x = new Cubequarry();
        Check.is("an answer that is the least", x.rootWhole(-1, 32), Integer.MIN_VALUE);
        Check.is("less than the greatest", x.below(2, 1, Integer.MAX_VALUE, 31), 1);
        Check.is("not less than the greatest", x.below(8, 1, Integer.MAX_VALUE, 31), 0);
        Check.is("not less than the least", x.below(-8, 1, Integer.MIN_VALUE, 31), 0);
        Check.is("less than the least", x.below(-9, 1, Integer.MIN_VALUE, 31), 1);
        Document.says("Description", "NONE is -1");
        Check.is("way(3, 0)", x.way(3, 0), -1);
        Document.says("Description", "x * 2^k, with k below 0, is x divided so often by two");
        int[] fives = {5, 2, 1, 0, 0};
        int[] fivesBelow = {-5, -3, -2, -1, -1};
        for (int k = 0; k <= 4; k++) {
            Check.is("5 by " + -k, Cells.with("eighths 40").whole(0, -k), fives[k]);
            Check.is("-5 by " + -k, Cells.with("eighths -40").whole(0, -k), fivesBelow[k]);
        }
        Check.is("roots less than 1 * 2^1", x.below(1, 200, 1, -1), 63);
        Check.is("roots less than -1 * 2^1", x.below(-200, 200, -1, -1), 136);
        Check.is("roots less than 0 * 2^20", x.below(-100, 200, 0, -20), 100);
        Check.is("roots less than -1 * 2^20", x.below(-MOST, 200, -1, -20), 0);
        Document.says("Description", "|t| is t without its sign");
        Check.is("isSound() of roots below 0", Cells.with("root -5", "root -524280", "root 2").isSound(), true);
    }

    private static void whatChangesNothing() {
        Document.says("Description", "-9 is told where an act is let, but can not be done, as told there; "
                + "nothing changes then, but that it is counted.");
        Cubequarry x = Cells.oneOfEach();
        Cells.notDone("row(65535, 1)", x, y -> y.row(MOST, 1));
        Cells.notDone("step(6, 0)", x, y -> y.step(6, 0));
        Cells.notDone("root(1, 0)", x, y -> y.root(1, 0));
        Cells.notDone("cube(0, 7)", x, y -> y.cube(0, 7));
        Cells.notDone("twice(2, 2)", x, y -> y.twice(2, 2));
        Cells.notDone("half(0, 0)", x, y -> y.half(0, 0));
        Cells.notDone("eightfold(1, 6)", x, y -> y.eightfold(1, 6));
        Check.is("house(1)", x.house(1), 7);
        Document.says("Description", "A method that throws an exception changes nothing.");
        String state = Cells.state(x);
        Check.index("copy(0, 8)", () -> x.copy(0, 8));
        Check.index("end(true, 8)", () -> x.end(true, 8));
        Check.argument("row(0, 8193)", () -> x.row(0, 8193));
        Check.argument("all(6)", () -> x.all(6));
        Check.argument("opposite(65536)", () -> x.opposite(MOST + 1));
        Check.state("whole(2, 0)", () -> x.whole(2, 0));
        Check.state("most(0, 1)", () -> x.most(0, 1));
        Check.state("rootWhole(524280, 40)", () -> x.rootWhole(524280, 40));
        Check.is("the state then", Cells.state(x), state);
    }

    // ---- 1. Numbers

    private static void theSet() {
        Document.says("Section 1", "all whole numbers t from -65535 to 65535, and those from -524280 to 524280 "
                + "that 8 divides.");
        Cubequarry x = Cells.with("eighths 65535", "eighths -65535", "eighths 524280", "eighths -524280");
        Cells.notDone("65535 by 2, not of 8", x, y -> y.step(0, 2));
        Cells.notDone("-65535 by -2, not of 8", x, y -> y.step(1, -2));
        Cells.notDone("524280 by 8, beyond", x, y -> y.step(2, 8));
        Cells.notDone("524280 by 1", x, y -> y.step(2, 1));
        Cells.notDone("524280 by -1, not of 8", x, y -> y.step(2, -1));
        Cells.notDone("524280 by -4, not of 8", x, y -> y.step(2, -4));
        Cells.notDone("-524280 by -8, beyond", x, y -> y.step(3, -8));
        Cells.notDone("-524280 by 4, not of 8", x, y -> y.step(3, 4));
        Cells.done("65535 by 1", x, y -> y.step(0, 1), 1,
                "eighths 65536/eighths -65535/eighths 524280/eighths -524280/zero/zero/zero/zero");
        Cells.done("-65535 by -1", x, y -> y.step(1, -1), 1,
                "eighths 65536/eighths -65536/eighths 524280/eighths -524280/zero/zero/zero/zero");
        Cells.done("524280 by -8", x, y -> y.step(2, -8), 1,
                "eighths 65536/eighths -65536/eighths 524272/eighths -524280/zero/zero/zero/zero");
        Cells.done("-524280 by 8", x, y -> y.step(3, 8), 1,
                "eighths 65536/eighths -65536/eighths 524272/eighths -524272/zero/zero/zero/zero");
    }

    private static void cubes() {
        Document.says("Section 1", "A CUBE is a whole number a * a * a, for a whole number a.");
        Cubequarry x = new Cubequarry();
        int cubes = 0;
        for (int t = -100; t <= 100; t++) {
            cubes += x.isCube(t) ? 1 : 0;
        }
        Check.is("the CUBES from -100 to 100", cubes, 9);
        Check.is("0 is a CUBE", x.isCube(0), true);
        Check.is("the root of 512000, which is a CUBE", rooted("eighths 512000"), "eighths 320");
        Check.is("the root of -512000, which is a CUBE", rooted("eighths -512000"), "eighths -320");
        Check.is("the root of 511992", rooted("eighths 511992"), "root 511992");
        Check.is("the root of 512008", rooted("eighths 512008"), "root 512008");
        Document.says("Section 1", "a ROOT of t, which is no CUBE: its TRUE number is that whose cube is t/8 "
                + "(so half of that whose cube is t)");
        // The cube root of 9 is 2.080...
        Check.is("the root of 9, thousandths", Cells.with("root 9").decimals(0, 3), 1040);
        Check.is("the root of 9, twice", Cells.with("root 9").whole(0, 1), 2);
        Check.is("the root of -9, thousandths", Cells.with("root -9").decimals(0, 3), -1041);
    }

    private static String rooted(String text) {
        Cubequarry x = Cells.with(text);
        x.root(0, 0);
        return x.text(0);
    }

    private static void isKept(String text, int upper, int lower) {
        Cubequarry x = Cells.with(text);
        Check.is("upper of " + text, x.upper(0), upper);
        Check.is("lower of " + text, x.lower(0), lower);
    }

    private static void isKeptAsItIs(int t) {
        long bits = Double.doubleToLongBits(t / 8.0);
        isKept("eighths " + t, (int) (bits >> 32), (int) bits);
    }

    private static void sixtyFourDigits() {
        Document.says("Section 1", "with an EXPONENT of 1 to 2046 it is (2^52 + FRACTION) * 2^(EXPONENT - 1075), "
                + "with the sign 1 that below 0");
        isKept("eighths 1", 0x3fc00000, 0);
        isKept("eighths -1", 0xbfc00000, 0);
        isKept("eighths 8", 0x3ff00000, 0);
        isKept("eighths 3", 0x3fd80000, 0);
        isKept("eighths 15", 0x3ffe0000, 0);
        isKept("eighths 16", 0x40000000, 0);
        isKept("eighths 65535", 0x40bfffe0, 0);
        isKept("eighths -65535", 0xc0bfffe0, 0);
        isKept("eighths 65536", 0x40c00000, 0);
        isKept("eighths 524280", 0x40efffe0, 0);
        isKept("eighths -524280", 0xc0efffe0, 0);
        Document.says("Section 1", "An EXACT one but of 0 is kept just as it is.");
        for (int t : new int[] {1, -1, 3, -7, 4095, 4097, -32767, MOST, -MOST, 65544, -131080, 524280, -524280}) {
            isKeptAsItIs(t);
        }
        for (int t = 1; t <= 600; t++) {
            isKeptAsItIs(t);
            isKeptAsItIs(-8 * t);
        }
        Document.says("Section 1", "ENDLESS ones have the EXPONENT 2047 and the FRACTION 0");
        isKept("endless", 0x7ff00000, 0);
        isKept("-endless", 0xfff00000, 0);
        Document.says("Section 1", "ZEROS the EXPONENT 0 and the FRACTION 0, with the sign 1 if they are BELOW");
        isKept("zero", 0, 0);
        isKept("-zero", 0x80000000, 0);
    }

    private static void kindsAndSigns() {
        Document.says("Section 1", "There are eight cells, 0 to 7; at first each has ZERO ABOVE.");
        Cubequarry x = new Cubequarry();
        Check.is("the cells at first", Cells.texts(x), "zero/zero/zero/zero/zero/zero/zero/zero");
        Check.index("a ninth cell", () -> x.text(8));
        Document.says("Section 1", "Of 0 there are two, ZERO ABOVE and ZERO BELOW.");
        x.zero(1, true);
        Check.is("isAlike", x.isAlike(0, 1), false);
        Check.is("kind of ZERO BELOW", x.kind(1), 0);
        Check.is("of ZERO BELOW", x.of(1), 0);
        Document.says("Section 1", "a NUMBER has the SIGN below, if its TRUE number is below 0, or it is ZERO BELOW "
                + "or ENDLESS BELOW.");
        String[] below = {"eighths -1", "eighths -524280", "root -2", "cubed -2", "again -2", "-zero", "-endless"};
        String[] above = {"eighths 1", "eighths 524280", "root 2", "cubed 2", "again 2", "zero", "endless"};
        for (int i = 0; i < below.length; i++) {
            Check.is(below[i], Cells.with(below[i]).isBelow(0), true);
            Check.is(above[i], Cells.with(above[i]).isBelow(0), false);
        }
        Document.says("Section 1", "CAME, of an act by which a NUMBER comes to a cell: 1, if another one was there, "
                + "0, if an ALIKE one was.");
        String[] texts = {"eighths 5", "root 5", "cubed 5", "again 5", "eighths -5", "zero", "-zero", "endless",
            "-endless", "root -5", "cubed -5", "again -5"};
        for (String one : texts) {
            for (String other : texts) {
                boolean areAlike = one.equals(other);
                Check.is(one + " comes to " + other, Cells.with(one, other).copy(0, 1), areAlike ? 0 : 1);
                Check.is(one + " is ALIKE " + other, Cells.with(one, other).isAlike(0, 1), areAlike);
            }
        }
    }

    private static void near() {
        Document.says("Section 1", "(So these are an EXACT and a CUBED one, or a ROOT and an AGAIN, of the same t; "
                + "no others of unlike KINDS have the same TRUE number.)");
        String[] texts = {"eighths 5", "root 5", "cubed 5", "again 5", "eighths -5", "root -5", "cubed -5", "again -5"};
        Cubequarry x = Cells.with(texts);
        for (int one = 0; one < 8; one++) {
            for (int other = 0; other < 8; other++) {
                boolean due = one / 4 == other / 4 && Math.abs(one - other) == 2;
                Check.is(texts[one] + " is NEAR " + texts[other], x.isNear(one, other), due);
            }
        }
        x = Cells.with("eighths 40", "cubed 5", "root 40", "again 5", "eighths 524280", "cubed 524280", "root 65535",
                "again 65535");
        Check.is("of unlike t", x.isNear(0, 1) || x.isNear(2, 3) || x.isNear(4, 7), false);
        Check.is("cubed 524280 and eighths 524280", x.isNear(5, 4), true);
        Check.is("root 65535 and again 65535", x.isNear(6, 7), true);
        Document.says("Section 1", "(It has no t and no TRUE number.)");
        x = Cells.with("zero", "-zero", "endless", "-endless", "endless");
        Check.is("ZEROS are of one KIND", x.isNear(0, 1), false);
        for (int cell = 0; cell < 5; cell++) {
            Check.is("an ENDLESS one and the cell " + cell, x.isNear(2, cell) || x.isNear(cell, 3), false);
        }
    }

    // ---- 2. What becomes of them

    private static int act(Cubequarry x, int how, int cell, int into) {
        switch (how) {
            case 1: return x.root(cell, into);
            case 2: return x.cube(cell, into);
            case 3: return x.twice(cell, into);
            case 4: return x.half(cell, into);
            default: return x.eightfold(cell, into);
        }
    }

    /** Into another cell, in its own, and by all(). */
    private static void becomes(int how, String from, String to) {
        String what = from + ", " + HOWS[how];
        int came = from.equals(to) ? 0 : 1;
        Cubequarry x = Cells.with(from, "again 3");
        Cells.done(what, x, y -> act(y, how, 0, 1), 1, from + "/" + to + "/zero/zero/zero/zero/zero/zero");
        Cells.done(what + " once more", x, y -> act(y, how, 0, 1), 0,
                from + "/" + to + "/zero/zero/zero/zero/zero/zero");
        x = Cells.with(from);
        Cells.done(what + " in its place", x, y -> act(y, how, 0, 0), came, to + "/zero/zero/zero/zero/zero/zero/zero");
        x = Cells.with(from);
        Cells.done(what + " by all", x, y -> y.all(how), 8, to + "/zero/zero/zero/zero/zero/zero/zero");
    }

    private static void canNot(int how, String... ones) {
        for (String from : ones) {
            String what = from + ", " + HOWS[how];
            Cubequarry x = Cells.with(from, "again 3");
            Cells.notDone(what, x, y -> act(y, how, 0, 1));
            Cells.notDone(what + " in its place", x, y -> act(y, how, 0, 0));
            x = Cells.with(from);
            Cells.done(what + " by all", x, y -> y.all(how), 7, from + "/zero/zero/zero/zero/zero/zero/zero");
        }
    }

    private static void rooted() {
        Document.says("Section 2", "ROOTED, an EXACT one of t becomes the ROOT of t, if t is no CUBE");
        for (int t : new int[] {2, 7, 9, 26, 28, 63999, 64001, MOST, 65536, 511992, 512008, 524280}) {
            becomes(1, "eighths " + t, "root " + t);
            becomes(1, "eighths " + -t, "root " + -t);
        }
        Document.says("Section 2", "if t is a * a * a, and not 0, it becomes the EXACT one of 4 * a (that is a/2)");
        for (int a = -80; a <= 80; a++) {
            if (a != 0 && (Math.abs(a) <= 40 || a % 2 == 0)) {
                becomes(1, "eighths " + a * a * a, "eighths " + 4 * a);
            }
        }
        Document.says("Section 2", "A CUBED one of t becomes the AGAIN of t.");
        for (int t : new int[] {2, -2, MOST, -MOST, 524280, -524280}) {
            becomes(1, "cubed " + t, "again " + t);
        }
        Document.says("Section 2", "Others but ZEROS and ENDLESS ones can not be ROOTED.");
        canNot(1, "root 2", "root -2", "root 524280", "again 2", "again -2", "again -524280");
    }

    private static void cubed() {
        Document.says("Section 2", "CUBED, an EXACT one of 4 * a becomes the EXACT one of a * a * a, "
                + "if that is of the SET.");
        for (int a = 1; a <= 131070; a += a < 1100 ? 1 : 251) {
            boolean isLet = a <= 40 || (a <= 80 && a % 2 == 0);
            if (4 * a > MOST && a % 2 != 0) {
                continue;
            }
            if (isLet) {
                becomes(2, "eighths " + 4 * a, "eighths " + a * a * a);
                becomes(2, "eighths " + -4 * a, "eighths " + -a * a * a);
            } else {
                canNot(2, "eighths " + 4 * a, "eighths " + -4 * a);
            }
        }
        // Their cubes are 0, or of the SET, in 32 bits that wrap around.
        canNot(2, "eighths 8192", "eighths -262144", "eighths 262144", "eighths 32768", "eighths 524280");
        Document.says("Section 2", "A ROOT of t becomes the CUBED one of t "
                + "(the library multiplies it by itself, and that by it again).");
        for (int t : new int[] {2, -2, 9, MOST, -MOST, 524280, -524280}) {
            becomes(2, "root " + t, "cubed " + t);
        }
        Document.says("Section 2", "Others but ZEROS and ENDLESS ones can not be CUBED.");
        canNot(2, "eighths 1", "eighths -1", "eighths 2", "eighths -2", "eighths 3", "eighths 5", "eighths 6",
                "eighths 318", "eighths -65535", "cubed 2", "cubed -2", "again 2", "again -2");
    }

    private static void twiceAndHalf() {
        Document.says("Section 2", "TWICE an EXACT one of t is that of 2 * t, TWICE a ROOT of t is the ROOT of 8 * t, "
                + "if 2 * t, or 8 * t, is of the SET.");
        for (int sign = -1; sign <= 1; sign += 2) {
            for (int t : new int[] {1, 3, 32767, 32768, 32772, 65528, 65532, 65536, 262136}) {
                becomes(3, "eighths " + sign * t, "eighths " + sign * 2 * t);
            }
            canNot(3, "eighths " + sign * 32769, "eighths " + sign * 32770, "eighths " + sign * 32771,
                    "eighths " + sign * 65534, "eighths " + sign * MOST, "eighths " + sign * 262144,
                    "eighths " + sign * 524280);
            for (int t : new int[] {2, 9, 65534, MOST}) {
                becomes(3, "root " + sign * t, "root " + sign * 8 * t);
            }
            canNot(3, "root " + sign * 65536, "root " + sign * 65544, "root " + sign * 524280);
        }
        Document.says("Section 2", "Others but ZEROS and ENDLESS ones can not be told TWICE.");
        canNot(3, "cubed 2", "cubed -2", "again 2", "again -2");
        Document.says("Section 2", "HALF of an EXACT one of t is that of t/2, HALF of a ROOT of t is the ROOT of t/8, "
                + "if t/2, or t/8, is a whole number, and of the SET.");
        for (int sign = -1; sign <= 1; sign += 2) {
            for (int t : new int[] {2, 4, 65534, 65536, 131064, 131072, 131088, 524272}) {
                becomes(4, "eighths " + sign * t, "eighths " + sign * t / 2);
            }
            canNot(4, "eighths " + sign, "eighths " + sign * 3, "eighths " + sign * MOST,
                    "eighths " + sign * 131080, "eighths " + sign * 524280);
            for (int t : new int[] {16, 24, 72, 65528, 65544, 524280}) {
                becomes(4, "root " + sign * t, "root " + sign * t / 8);
            }
            canNot(4, "root " + sign * 2, "root " + sign * 7, "root " + sign * 9, "root " + sign * 12,
                    "root " + sign * MOST);
        }
        Document.says("Section 2", "Others but ZEROS and ENDLESS ones can not be told HALF.");
        canNot(4, "cubed 16", "cubed -16", "again 16", "again -16");
    }

    private static void eightTimes() {
        Document.says("Section 2", "EIGHT times an EXACT one of t is that of 8 * t, EIGHT times a CUBED one of t is "
                + "the CUBED one of 8 * t, if 8 * t is of the SET.");
        for (int sign = -1; sign <= 1; sign += 2) {
            for (int t : new int[] {1, 2, 8192, 65534, MOST}) {
                becomes(5, "eighths " + sign * t, "eighths " + sign * 8 * t);
            }
            for (int t : new int[] {2, 8193, 65534, MOST}) {
                becomes(5, "cubed " + sign * t, "cubed " + sign * 8 * t);
            }
            canNot(5, "eighths " + sign * 65536, "eighths " + sign * 524280, "cubed " + sign * 65536,
                    "cubed " + sign * 524280);
        }
        Document.says("Section 2", "Others but ZEROS and ENDLESS ones can not be told EIGHT times.");
        canNot(5, "root 2", "root -2", "again 2", "again -2");
    }

    private static void staying() {
        Document.says("Section 2", "ZEROS and ENDLESS ones stay as they are, with their SIGN, by all five.");
        for (int how = 1; how <= 5; how++) {
            for (String text : STAYING) {
                becomes(how, text, text);
            }
        }
    }

    // ---- 3. How near

    private static void howNear() {
        Document.says("Section 3", "A CUBED one of t is at most 4 STEPS from the EXACT one of t; an AGAIN of t is at "
                + "most 1 STEP from the ROOT of t.");
        for (int t : new int[] {2, 7, 9, 63999, MOST, 65536, 524280}) {
            for (int sign = -1; sign <= 1; sign += 2) {
                String of = " " + sign * t;
                Cubequarry x = Cells.with("eighths" + of, "root" + of, "cubed" + of, "again" + of);
                Check.is("most of cubed and eighths" + of, x.most(2, 0), 4);
                Check.is("most of again and root" + of, x.most(3, 1), 1);
                Check.is("isWithin of cubed and eighths" + of, x.isWithin(2, 0), true);
                Check.is("isWithin of again and root" + of, x.isWithin(3, 1), true);
            }
        }
    }

    // ---- 4. Order, digits

    private static void isAhead(String one, String other) {
        Cubequarry x = Cells.with(one, other);
        Check.is(one + " to " + other, x.order(0, 1), -1);
        Check.is(other + " to " + one, x.order(1, 0), 1);
    }

    private static void order() {
        Document.says("Section 4", "ENDLESS BELOW stands ahead of all others, all others stand ahead of ENDLESS ABOVE");
        String[] rising = {"-endless", "eighths -524280", "root -524280", "eighths -1", "-zero", "zero", "eighths 1",
            "cubed 2", "root 2", "eighths 524280", "endless"};
        for (int i = 0; i < rising.length; i++) {
            for (int j = i + 1; j < rising.length; j++) {
                isAhead(rising[i], rising[j]);
            }
        }
        Document.says("Section 4", "ZERO BELOW stands ahead of ZERO ABOVE.");
        isAhead("-zero", "zero");
        Document.says("Section 4", "Of NEAR ones neither stands ahead, nor of ALIKE ones.");
        String[] texts = {"eighths 5", "root 5", "cubed 5", "again 5", "zero", "-zero", "endless", "-endless"};
        Cubequarry x = Cells.with(texts);
        for (int cell = 0; cell < 8; cell++) {
            Check.is(texts[cell] + " and itself", x.order(cell, cell), 0);
            Cubequarry alike = Cells.with(texts[cell], texts[cell]);
            Check.is(texts[cell] + " and one ALIKE", alike.order(0, 1), 0);
        }
        Check.is("eighths and cubed", x.order(0, 2), 2);
        Check.is("cubed and eighths", x.order(2, 0), 2);
        Check.is("root and again", x.order(1, 3), 2);
        Check.is("again and root", x.order(3, 1), 2);
        orderByCubes();
    }

    private static void orderByTrueNumbers() {
        Document.says("Section 1", "all that is asked of such a NUMBER goes by the TRUE number, "
                + "but where STEPS are named.");
        Cubequarry x = Cells.with("root 3907", "again 3907", "cubed 63", "eighths 63", "root -3907", "cubed -63");
        int[] ranks = {6, 6, 4, 4, 0, 1};
        for (int cell = 0; cell < ranks.length; cell++) {
            Check.is("the rank of " + x.text(cell), x.rank(cell), ranks[cell]);
        }
        x.sort();
        Check.is("the cells in ORDER", Cells.texts(x),
                "root -3907/cubed -63/zero/zero/cubed 63/eighths 63/root 3907/again 3907");
        Document.says("Section 1", "1, an ENDLESS one: ENDLESS ABOVE is above all others, "
                + "ENDLESS BELOW below all others.");
        isAhead("eighths 524280", "endless");
        isAhead("cubed 524280", "endless");
        isAhead("-endless", "eighths -524280");
        isAhead("-endless", "again -524280");
        isAhead("-endless", "endless");
    }

    private static void orderByCubes() {
        Document.says("Section 4", "(Which of two TRUE numbers is less can be told by cubes of whole numbers alone: "
                + "a ROOT of t stands ahead of an EXACT one of s, if 64 * t is less than s * s * s.)");
        // 63 * 63 * 63 is 64 * 3907 - 1, and 65 * 65 * 65 is 64 * 4291 + 1.
        for (String kind : new String[] {"root ", "again "}) {
            for (String kindOfS : new String[] {"eighths ", "cubed "}) {
                isAhead(kindOfS + "63", kind + "3907");
                isAhead(kind + "3906", kindOfS + "63");
                isAhead(kind + "-3907", kindOfS + "-63");
                isAhead(kind + "4291", kindOfS + "65");
                isAhead(kindOfS + "65", kind + "4292");
                isAhead(kindOfS + "-65", kind + "-4291");
                isAhead(kind + "516808", kindOfS + "321");
                isAhead(kindOfS + "321", kind + "516816");
                isAhead(kindOfS + "-321", kind + "516808");
                isAhead(kind + "-516808", kindOfS + "321");
            }
        }
        // Their cubes are of more than 32 bits.
        isAhead("root 524280", "eighths 524280");
        isAhead("eighths -524280", "root -524280");
        isAhead("root 2", "eighths 2048");
        isAhead("root 2", "eighths 65536");
        isAhead("root 524280", "cubed 1626");
        isAhead("root 2", "root 3");
        isAhead("root -3", "again -2");
        isAhead("root 65535", "again 65536");
        isAhead("cubed -3", "eighths -2");
    }

    private static void isWhole(String text, int k, int due) {
        Check.is(text + " by " + k, Cells.with(text).whole(0, k), due);
    }

    private static void whole() {
        Document.says("Section 4", "WHOLE by k (-20 to 40): the TRUE number times 2^k, rounded down (to the greatest "
                + "whole number that is not above it, below 0, too); of both ZEROS 0.");
        for (int k = -20; k <= 40; k++) {
            isWhole("zero", k, 0);
            isWhole("-zero", k, 0);
        }
        int[] ks = {-20, -1, 0, 1, 2, 3, 4};
        int[] seven = {0, 0, 0, 1, 3, 7, 14};
        int[] sevenBelow = {-1, -1, -1, -2, -4, -7, -14};
        int[] nine = {0, 0, 1, 2, 4, 9, 18};
        int[] nineBelow = {-1, -1, -2, -3, -5, -9, -18};
        int[] root = {0, 0, 1, 2, 4, 8, 16};
        int[] rootBelow = {-1, -1, -2, -3, -5, -9, -17};
        for (int i = 0; i < ks.length; i++) {
            isWhole("eighths 7", ks[i], seven[i]);
            isWhole("eighths -7", ks[i], sevenBelow[i]);
            isWhole("eighths 9", ks[i], nine[i]);
            isWhole("eighths -9", ks[i], nineBelow[i]);
            isWhole("root 9", ks[i], root[i]);
            isWhole("root -9", ks[i], rootBelow[i]);
        }
        isWhole("eighths -8", 0, -1);
        isWhole("eighths -16", -1, -1);
        isWhole("eighths 524280", -15, 1);
        isWhole("eighths 524280", -16, 0);
        isWhole("eighths -524280", -16, -1);
        isWhole("eighths -524280", -15, -2);
        isWhole("eighths 524280", -20, 0);
        isWhole("eighths -524280", -20, -1);
        isWhole("root 524280", -5, 1);
        isWhole("root 524280", -6, 0);
        isWhole("root -524280", -6, -1);
        isWhole("root -524280", -5, -2);
    }

    /** Each power, of roots of few and of many digits: whether w is the greatest one that is not above. */
    private static void wholeByEachPower() {
        Document.says("Section 4", "WHOLE by k (-20 to 40): the TRUE number times 2^k, rounded down");
        for (int t : new int[] {2, 3, 5, 12, 20, 40, 100, 200, 500, 1200, 3000, 5000, 15000, 20000, 40000, MOST, 100000,
            200000, 400000, 524280}) {
            for (int k = -20; k <= 40; k++) {
                isRoundedDown("root " + t, t, k);
                isRoundedDown("root " + -t, -t, k);
            }
        }
    }

    /** By cubes: 8 * w * w * w is not above t * 2^(3 * k), and that of w + 1 is. */
    private static void isRoundedDown(String text, int t, int k) {
        Cubequarry x = Cells.with(text);
        BigInteger cube = BigInteger.valueOf(t).shiftLeft(60 + 3 * k);
        boolean isLet = cube.compareTo(BigInteger.ONE.shiftLeft(156)) < 0
                && cube.compareTo(BigInteger.ONE.shiftLeft(156).negate()) >= 0;
        if (!isLet) {
            Check.state(text + " by " + k, () -> x.whole(0, k));
            return;
        }
        BigInteger w = BigInteger.valueOf(x.whole(0, k));
        boolean isNotAbove = w.pow(3).shiftLeft(63).compareTo(cube) <= 0;
        boolean isNextAbove = w.add(BigInteger.ONE).pow(3).shiftLeft(63).compareTo(cube) > 0;
        Check.is(text + " by " + k + ", answered " + w + ", is not above", isNotAbove, true);
        Check.is(text + " by " + k + ", answered " + w + ", the next one is", isNextAbove, true);
    }

    private static void areDecimals(String text, int... due) {
        Cubequarry x = Cells.with(text);
        for (int d = 0; d <= 3; d++) {
            Check.is(text + ", " + d, x.decimals(0, d), due[d]);
        }
    }

    private static void decimals() {
        Document.says("Section 4", "DECIMALS, d of them (0 to 3): the TRUE number times 10^d, rounded down likewise; "
                + "of both ZEROS 0.");
        areDecimals("zero", 0, 0, 0, 0);
        areDecimals("-zero", 0, 0, 0, 0);
        areDecimals("eighths 1", 0, 1, 12, 125);
        areDecimals("eighths -1", -1, -2, -13, -125);
        areDecimals("eighths 4", 0, 5, 50, 500);
        areDecimals("eighths -4", -1, -5, -50, -500);
        areDecimals("eighths -8", -1, -10, -100, -1000);
        areDecimals("eighths -9", -2, -12, -113, -1125);
        areDecimals("eighths 65535", 8191, 81918, 819187, 8191875);
        areDecimals("eighths 524280", 65535, 655350, 6553500, 65535000);
        areDecimals("eighths -524280", -65535, -655350, -6553500, -65535000);
        areDecimals("root 2", 0, 6, 62, 629);
        areDecimals("root -2", -1, -7, -63, -630);
        areDecimals("root 7", 0, 9, 95, 956);
        areDecimals("root 9", 1, 10, 104, 1040);
        areDecimals("root 511", 3, 39, 399, 3997);
        areDecimals("root 513", 4, 40, 400, 4002);
        areDecimals("root 999", 4, 49, 499, 4998);
        areDecimals("root -999", -5, -50, -500, -4999);
        areDecimals("root 1001", 5, 50, 500, 5001);
        areDecimals("root -1001", -6, -51, -501, -5002);
        areDecimals("root 524280", 40, 403, 4031, 40317);
        areDecimals("root -524280", -41, -404, -4032, -40318);
    }

    private static void isTall(String kind, int t, int height, int digits) {
        for (int sign = -1; sign <= 1; sign += 2) {
            Cubequarry x = Cells.with(kind + " " + sign * t);
            Check.is("height of " + kind + " " + sign * t, x.height(0), height);
            Check.is("digits of " + kind + " " + sign * t, x.digits(0), digits);
        }
    }

    private static void heightAndDigits() {
        Document.says("Section 4", "HEIGHT, of a NUMBER of the KINDS 0 and 2 that is no ZERO (others have none): that "
                + "whole number h with which the TRUE number, without its SIGN, is 2^h or more, and less than "
                + "2^(h + 1).");
        for (int power = 0; power <= 18; power++) {
            isTall("eighths", 1 << power, power - 3, 1 << 30);
        }
        isTall("eighths", 3, -2, 3 << 29);
        isTall("eighths", 7, -1, 7 << 28);
        isTall("eighths", 9, 0, 9 << 27);
        isTall("eighths", MOST, 12, MOST << 15);
        isTall("eighths", 131064, 13, 2147352576);
        isTall("eighths", 131080, 14, 1073807360);
        isTall("eighths", 524280, 15, MOST << 15);
        isTall("root", 2, -1, 1352829926);
        isTall("root", 7, -1, 2053994217);
        isTall("root", 9, 0, 1116736499);
        isTall("root", 63, 0, 2136240072);
        isTall("root", 65, 1, 1079305352);
        isTall("root", 511, 1, 2146084635);
        isTall("root", 513, 2, 1074440420);
        isTall("root", 4095, 2, 2147308871);
        isTall("root", 4097, 3, 1073829198);
        isTall("root", 32767, 3, 2147461802);
        isTall("root", 32769, 4, 1073752746);
        isTall("root", 262136, 4, 2147461802);
        isTall("root", 262152, 5, 1073752746);
        isTall("root", 524280, 5, 1352823045);
    }

    // ---- 5. Sums of two cubes

    private static void areWays(int n, int... due) {
        Cubequarry x = new Cubequarry();
        Check.is("ways(" + n + ")", x.ways(n), due.length);
        for (int i = 0; i <= 9; i++) {
            Check.is("way(" + n + ", " + i + ")", x.way(n, i), i < due.length ? due[i] : -1);
        }
    }

    private static void ways() {
        Document.says("Section 5", "two whole numbers a and b, a at least 1, b not less than a, "
                + "with a * a * a and b * b * b together n.");
        // 0 is no a: neither 0 and 1, nor 0 and 40; and no sum counts for a and b and for b and a.
        areWays(0);
        areWays(1);
        areWays(8);
        areWays(64000);
        areWays(2, 1);
        areWays(9, 1);
        areWays(16, 2);
        areWays(35, 2);
        // No a or b is below 0: 7 is 8 and -1, 19 is 27 and -8.
        areWays(7);
        areWays(19);
        areWays(64001, 1);
        areWays(59582, 31);
        areWays(62559, 31);
        areWays(65520, 22);
        areWays(65535);
        Document.says("Section 5", "WAYS of n are told by rising a.");
        areWays(1729, 1, 9);
        areWays(4104, 2, 9);
        areWays(20683, 10, 19);
        areWays(64232, 17, 26);
    }

    static void ask() {
        last512th();
        any512th();
        preface();
        whatChangesNothing();
        theSet();
        cubes();
        sixtyFourDigits();
        kindsAndSigns();
        near();
        rooted();
        cubed();
        twiceAndHalf();
        eightTimes();
        staying();
        howNear();
        order();
        orderByTrueNumbers();
        whole();
        wholeByEachPower();
        decimals();
        heightAndDigits();
        ways();
    }
}
