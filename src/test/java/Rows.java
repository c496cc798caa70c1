/**
 * Each Throws row of the document: it does not throw at its ends, it throws just beyond them and far
 * beyond, nothing changes then, and where two rows apply, the first one's exception is thrown.
 */
final class Rows {
    private static final int MOST = Cells.MOST;
    private static final int LEAST_INT = Integer.MIN_VALUE;
    private static final int GREATEST_INT = Integer.MAX_VALUE;
    private static final String INDEX = "IndexOutOfBoundsException";
    private static final String ARGUMENT = "IllegalArgumentException";
    private static final String STATE = "IllegalStateException";
    private static final String CELL = "Throws `IndexOutOfBoundsException` if cell is not 0 to 7";
    private static final String ONE = "Throws `IndexOutOfBoundsException` if one is not 0 to 7";
    private static final String IF = "Throws `IllegalArgumentException` if ";

    interface Asked {
        Object of(Cubequarry x);
    }

    interface AskedBy {
        Object of(Cubequarry x, int n);
    }

    interface AskedByTwo {
        Object of(Cubequarry x, int one, int other);
    }

    /** What the cells have for the calls to come. */
    private static String[] cells = {};

    private Rows() {
    }

    private static void with(String... texts) {
        cells = texts;
    }

    private static String answer(Cubequarry x, Asked call) {
        try {
            return "an answer, " + (call.of(x) == null ? "null" : "not null");
        } catch (RuntimeException e) {
            return e.getClass().getSimpleName();
        }
    }

    private static void answers(String what, Asked call) {
        Check.is(what, answer(Cells.with(cells), call), "an answer, not null");
    }

    /** Asked twice, so that the second time tells what the first time left. */
    private static void isThrown(String exception, String what, Asked call) {
        Cubequarry x = Cells.with(cells);
        x.knock();
        String state = Cells.state(x);
        Check.is(what, answer(x, call), exception);
        Check.is("the state after " + what, Cells.state(x), state);
        Check.is(what + ", again", answer(x, call), exception);
        Check.is("the state after " + what + ", again", Cells.state(x), state);
    }

    private static int[] beyond(int least, int most) {
        return new int[] {least - 1, most + 1, LEAST_INT, GREATEST_INT};
    }

    private static void fromTo(String exception, int least, int most, AskedBy call) {
        answers("the least, " + least, x -> call.of(x, least));
        answers("the greatest, " + most, x -> call.of(x, most));
        for (int n : beyond(least, most)) {
            isThrown(exception, "beyond, " + n, x -> call.of(x, n));
        }
    }

    private static void cell(int promise, AskedBy call) {
        Document.says(promise, CELL);
        fromTo(INDEX, 0, 7, call);
    }

    private static void cells(int promise, AskedByTwo call) {
        Document.says(promise, ONE);
        fromTo(INDEX, 0, 7, (x, n) -> call.of(x, n, 0));
        fromTo(INDEX, 0, 7, (x, n) -> call.of(x, 0, n));
        fromTo(INDEX, 0, 7, (x, n) -> call.of(x, n, n));
        isThrown(INDEX, "both beyond, 8 and -1", x -> call.of(x, 8, -1));
    }

    private static void argument(int promise, String row, int least, int most, AskedBy call) {
        Document.says(promise, IF + row);
        fromTo(ARGUMENT, least, most, call);
    }

    /** The first argument is a cell; where it and the other one are beyond, the cell is told. */
    private static void cellAhead(int least, int most, AskedByTwo call) {
        Document.says("Description", "If several exceptions apply, the one that is named first is thrown");
        for (int cell : beyond(0, 7)) {
            for (int n : beyond(least, most)) {
                isThrown(INDEX, "both beyond, " + cell + " and " + n, x -> call.of(x, cell, n));
            }
        }
    }

    private static void whatComes() {
        with("eighths 5", "root 5", "cubed 5", "again 5", "eighths -8", "-zero", "endless", "-endless");
        cell(2, (x, n) -> x.eighths(n, 5));
        argument(2, "t is not -65535 to 65535", -MOST, MOST, (x, n) -> x.eighths(0, n));
        cellAhead(-MOST, MOST, (x, cell, n) -> x.eighths(cell, n));
        cell(3, (x, n) -> x.units(n, 5));
        argument(3, "n is not -65535 to 65535", -MOST, MOST, (x, n) -> x.units(0, n));
        cellAhead(-MOST, MOST, (x, cell, n) -> x.units(cell, n));
        cell(4, (x, n) -> x.zero(n, false));
        cell(4, (x, n) -> x.zero(n, true));
        cell(5, (x, n) -> x.endless(n, false));
        cell(5, (x, n) -> x.endless(n, true));
        argument(6, "from is not -65535 to 65535, or by not -8192 to 8192", -MOST, MOST, (x, n) -> x.row(n, 0));
        fromTo(ARGUMENT, -8192, 8192, (x, n) -> x.row(0, n));
        isThrown(ARGUMENT, "from and by beyond", x -> x.row(MOST + 1, -8193));
        cells(7, (x, one, other) -> x.copy(one, other));
        cell(8, (x, n) -> x.step(n, 1));
        argument(8, "by is not -65535 to 65535", -MOST, MOST, (x, n) -> x.step(0, n));
        cellAhead(-MOST, MOST, (x, cell, n) -> x.step(cell, n));
        cell(9, (x, n) -> x.turn(n));
    }

    private static void whatBecomesOfIt() {
        cells(10, (x, one, other) -> x.root(one, other));
        cells(11, (x, one, other) -> x.cube(one, other));
        cells(12, (x, one, other) -> x.twice(one, other));
        cells(13, (x, one, other) -> x.half(one, other));
        cells(14, (x, one, other) -> x.eightfold(one, other));
        argument(15, "how is not 1 to 5", 1, 5, (x, n) -> x.all(n));
        Document.says(16, "Throws `IndexOutOfBoundsException` if into is not 0 to 7");
        fromTo(INDEX, 0, 7, (x, n) -> x.end(false, n));
        fromTo(INDEX, 0, 7, (x, n) -> x.end(true, n));
    }

    /** An exception goes ahead of the -9 that would be told without it. */
    private static void aheadOfNotDone() {
        Document.says("Description", "exceptions go ahead of -9");
        for (int into : beyond(0, 7)) {
            isThrown(INDEX, "root of a root, into " + into, x -> x.root(1, into));
            isThrown(INDEX, "cube of 5 eighths, into " + into, x -> x.cube(0, into));
            isThrown(INDEX, "twice a cubed one, into " + into, x -> x.twice(2, into));
            isThrown(INDEX, "half of 5 eighths, into " + into, x -> x.half(0, into));
            isThrown(INDEX, "eight times a root, into " + into, x -> x.eightfold(1, into));
        }
        for (int by : beyond(-MOST, MOST)) {
            for (int cell : new int[] {1, 2, 3, 6, 7}) {
                isThrown(ARGUMENT, "step of the cell " + cell + " by " + by, x -> x.step(cell, by));
            }
        }
        isThrown(ARGUMENT, "row(65535, 8193), which can not be either", x -> x.row(MOST, 8193));
        isThrown(ARGUMENT, "row(65536, 8192), which can not be either", x -> x.row(MOST + 1, 8192));
        isThrown(ARGUMENT, "row(-65536, 0), which can not be either", x -> x.row(-MOST - 1, 0));
    }

    /** Those of these that throw a state's exception answer otherwise nothing. */
    private static void ofKinds(int promise, String row, String[] let, String[] notLet, AskedBy call) {
        Document.says(promise, row);
        for (String text : let) {
            with(text);
            answers(text, x -> call.of(x, 0));
        }
        for (String text : notLet) {
            with(text);
            isThrown(STATE, text, x -> call.of(x, 0));
        }
    }

    private static void whatIsAsked() {
        with("eighths 5", "root 5", "cubed 5", "again 5", "eighths -8", "-zero", "endless", "-endless");
        cell(18, (x, n) -> x.kind(n));
        cell(19, (x, n) -> x.of(n));
        cell(20, (x, n) -> x.isBelow(n));
        cell(27, (x, n) -> x.text(n));
        with("eighths 5", "root 5", "eighths 5", "root 5", "eighths 5", "root 5", "eighths -5", "root -5");
        cell(21, (x, n) -> x.whole(n, 5));
        cell(22, (x, n) -> x.decimals(n, 2));
        cell(23, (x, n) -> x.height(n));
        cell(24, (x, n) -> x.digits(n));
        cellAhead(-20, 40, (x, cell, n) -> x.whole(cell, n));
        cellAhead(0, 3, (x, cell, n) -> x.decimals(cell, n));
        argument(22, "d is not 0 to 3", 0, 3, (x, n) -> x.decimals(1, n));
        with("zero", "root 5", "again 5", "endless");
        argument(21, "k is not -20 to 40", -20, 40, (x, n) -> x.whole(0, n));
        Document.says("Description", "If several exceptions apply, the one that is named first is thrown");
        isThrown(STATE, "whole of a root by 40, too great", x -> x.whole(1, 40));
        for (int cell = 1; cell <= 3; cell++) {
            int asked = cell;
            for (int k : beyond(-20, 40)) {
                isThrown(ARGUMENT, "whole of the cell " + cell + " by " + k, x -> x.whole(asked, k));
            }
            for (int d : beyond(0, 3)) {
                isThrown(ARGUMENT, "decimals of the cell " + cell + ", " + d, x -> x.decimals(asked, d));
            }
        }
        with("eighths 5", "zero", "-zero", "endless", "-endless", "eighths -5", "eighths 5", "eighths 5");
        cell(25, (x, n) -> x.upper(n));
        cell(26, (x, n) -> x.lower(n));
        askedOfKinds();
    }

    private static void askedOfKinds() {
        String[] told = {"eighths 5", "eighths -5", "zero", "-zero", "root 5", "root -5", "root 524280"};
        String[] notTold = {"cubed 5", "cubed -5", "again 5", "again -5", "endless", "-endless"};
        String row = "Throws `IllegalStateException` if it is not of the KIND 0 or 2";
        ofKinds(21, row + ", or the WHOLE is not -2147483648 to 2147483647", told, notTold, (x, n) -> x.whole(n, 0));
        ofKinds(22, row, told, notTold, (x, n) -> x.decimals(n, 3));
        String[] tall = {"eighths 1", "eighths -1", "eighths 524280", "root 2", "root -2", "root -524280"};
        String[] notTall = {"zero", "-zero", "cubed 5", "cubed -5", "again 5", "again -5", "endless", "-endless"};
        ofKinds(23, "Throws `IllegalStateException` if it has none", tall, notTall, (x, n) -> x.height(n));
        ofKinds(24, "Throws `IllegalStateException` if it has no HEIGHT", tall, notTall, (x, n) -> x.digits(n));
        String[] kept = {"eighths 1", "eighths -524280", "zero", "-zero", "endless", "-endless"};
        String[] notKept = {"root 5", "root -5", "cubed 5", "cubed -5", "again 5", "again -5"};
        row = "Throws `IllegalStateException` if it is not of the KIND 0 or 1";
        ofKinds(25, row, kept, notKept, (x, n) -> x.upper(n));
        ofKinds(26, row, kept, notKept, (x, n) -> x.lower(n));
    }

    private static void ofTwo() {
        with("eighths 5", "root 5", "cubed 5", "again 5", "eighths -8", "-zero", "endless", "-endless");
        cells(28, (x, one, other) -> x.order(one, other));
        cells(29, (x, one, other) -> x.isAlike(one, other));
        cells(30, (x, one, other) -> x.isNear(one, other));
        cell(33, (x, n) -> x.find(n, false));
        cell(33, (x, n) -> x.find(n, true));
        cell(34, (x, n) -> x.rank(n));
        with("eighths 5", "cubed 5", "root 5", "cubed -5", "eighths -5", "again 5", "root 5", "cubed 5");
        nearCells(31, (x, one, other) -> x.most(one, other));
        nearCells(32, (x, one, other) -> x.isWithin(one, other));
        with("eighths 5", "root 5", "cubed 5", "again 5", "zero", "-zero", "endless", "-endless");
        notNear(31, "Throws `IllegalStateException` if they are not NEAR (a cell and itself never are)",
                (x, one, other) -> x.most(one, other));
        notNear(32, "Throws `IllegalStateException` if they are not NEAR",
                (x, one, other) -> x.isWithin(one, other));
    }

    /** Each of the cells 0 and 7 has a NEAR one; beyond, the index is told, not the state. */
    private static void nearCells(int promise, AskedByTwo call) {
        Document.says(promise, ONE);
        answers("0 and 7", x -> call.of(x, 0, 7));
        answers("7 and 0", x -> call.of(x, 7, 0));
        for (int cell : beyond(0, 7)) {
            isThrown(INDEX, cell + " and 1", x -> call.of(x, cell, 1));
            isThrown(INDEX, "1 and " + cell, x -> call.of(x, 1, cell));
            isThrown(INDEX, cell + " and itself", x -> call.of(x, cell, cell));
        }
    }

    private static void notNear(int promise, String row, AskedByTwo call) {
        Document.says(promise, row);
        for (int one = 0; one < 8; one++) {
            for (int other = 0; other < 8; other++) {
                int first = one;
                int second = other;
                boolean areNear = one < 4 && other < 4 && Math.abs(one - other) == 2;
                if (areNear) {
                    answers(one + " and " + other, x -> call.of(x, first, second));
                } else {
                    isThrown(STATE, one + " and " + other, x -> call.of(x, first, second));
                }
            }
        }
    }

    private static void rootWhole() {
        Document.says(35, IF + "t is not of the SET, or k not -20 to 40");
        for (int t : new int[] {MOST, MOST + 1, 65544, 524272, 524280, 0}) {
            answers("of the SET: " + t, x -> x.rootWhole(t, 0));
            answers("of the SET: " + -t, x -> x.rootWhole(-t, 0));
        }
        for (int t : new int[] {65537, 65543, 65545, 524279, 524281, 524287, 524288, 600000, GREATEST_INT}) {
            isThrown(ARGUMENT, "not of the SET: " + t, x -> x.rootWhole(t, 0));
            isThrown(ARGUMENT, "not of the SET: " + -t, x -> x.rootWhole(-t, 0));
        }
        isThrown(ARGUMENT, "not of the SET: the least int", x -> x.rootWhole(LEAST_INT, 0));
        fromTo(ARGUMENT, -20, 40, (x, n) -> x.rootWhole(0, n));
        isThrown(ARGUMENT, "t and k beyond", x -> x.rootWhole(524281, 41));
        Document.says("Description", "If several exceptions apply, the one that is named first is thrown");
        isThrown(STATE, "5 by 40, too great", x -> x.rootWhole(5, 40));
        isThrown(ARGUMENT, "5 by 41, too great as well", x -> x.rootWhole(5, 41));
        isThrown(ARGUMENT, "65537 by 40, too great as well", x -> x.rootWhole(65537, 40));
    }

    private static void numbers() {
        argument(36, "n is not 0 to 65535", 0, MOST, (x, n) -> x.wholePart(n));
        argument(37, "t is not -65535 to 65535", -MOST, MOST, (x, n) -> x.isCube(n));
        argument(38, "a is not 0 to 208000", 0, 208000, (x, n) -> x.rootOfCube(n));
        argument(39, "a or b is not -128 to 128", -128, 128, (x, n) -> x.product(n, 128));
        fromTo(ARGUMENT, -128, 128, (x, n) -> x.product(-128, n));
        fromTo(ARGUMENT, -128, 128, (x, n) -> x.product(n, n));
        argument(40, "n is not 0 to 65535", 0, MOST, (x, n) -> x.ways(n));
        argument(41, "n is not 0 to 65535, or i not 0 to 9", 0, MOST, (x, n) -> x.way(n, 0));
        fromTo(ARGUMENT, 0, 9, (x, n) -> x.way(1729, n));
        isThrown(ARGUMENT, "n and i beyond", x -> x.way(-1, 10));
        argument(44, "n is not 0 to 8000", 0, 8000, (x, n) -> x.nextStep(n));
        argument(46, "t is not -65535 to 65535", -MOST, MOST, (x, n) -> x.opposite(n));
        argument(47, "t is not -65535 to 65535", -MOST, MOST, (x, n) -> x.eight(n));
        argument(48, "t is not 1 to 65535", 1, MOST, (x, n) -> x.comesNear(n));
        argument(50, "what is not 0 to 4", 0, 4, (x, n) -> x.house(n));
    }

    /** from, many, and the end, which is from + many, each at its ends and beyond. */
    private static void stretch(int leastFrom, int mostMany, int lastEnd, AskedByTwo call) {
        fromTo(ARGUMENT, leastFrom, MOST, (x, n) -> call.of(x, n, 0));
        fromTo(ARGUMENT, 0, mostMany, (x, n) -> call.of(x, 100, n));
        fromTo(ARGUMENT, 0, mostMany, (x, n) -> call.of(x, leastFrom, n));
        int last = lastEnd - mostMany;
        answers(last + " and " + mostMany, x -> call.of(x, last, mostMany));
        isThrown(ARGUMENT, (last + 1) + " and " + mostMany, x -> call.of(x, last + 1, mostMany));
        answers((last + 1) + " and " + (mostMany - 1), x -> call.of(x, last + 1, mostMany - 1));
        int left = lastEnd - MOST;
        answers(MOST + " and " + left, x -> call.of(x, MOST, left));
        isThrown(ARGUMENT, MOST + " and " + (left + 1), x -> call.of(x, MOST, left + 1));
        isThrown(ARGUMENT, "both too great", x -> call.of(x, MOST + 1, mostMany + 1));
        isThrown(ARGUMENT, "from too small, many too great", x -> call.of(x, leastFrom - 1, mostMany + 1));
        isThrown(ARGUMENT, "from too great, many too small", x -> call.of(x, MOST + 1, -1));
        isThrown(ARGUMENT, "both of all ints the greatest", x -> call.of(x, GREATEST_INT, GREATEST_INT));
    }

    private static void stretches() {
        Document.says(42, IF + "from is not 0 to 65535, many not 0 to 100, or from + many above 65536");
        stretch(0, 100, 65536, (x, from, many) -> x.twoWays(from, many));
        Document.says(43, IF + "from is not 0 to 65535, many not 0 to 200, or from + many above 65535");
        stretch(0, 200, 65535, (x, from, many) -> x.stepsUp(from, many));
        Document.says(45, IF + "from is not -65535 to 65535, many not 0 to 200, or from + many above 65535");
        stretch(-MOST, 200, 65535, (x, from, many) -> x.rises(false, from, many));
        stretch(-MOST, 200, 65535, (x, from, many) -> x.rises(true, from, many));
        Document.says(49, IF + "from is not -65535 to 65535, many not 0 to 200, from + many above 65536, "
                + "or k is not -20 to 40");
        stretch(-MOST, 200, 65536, (x, from, many) -> x.below(from, many, 0, 0));
        fromTo(ARGUMENT, -20, 40, (x, n) -> x.below(0, 200, 1, n));
        fromTo(ARGUMENT, -20, 40, (x, n) -> x.below(0, 0, 1, n));
        isThrown(ARGUMENT, "all beyond", x -> x.below(MOST + 1, 201, 0, 41));
        for (int n : new int[] {LEAST_INT, -1, 0, 1, GREATEST_INT}) {
            answers("any number, " + n, x -> x.below(-100, 200, n, 40));
            answers("any number, " + n, x -> x.below(-100, 200, n, -20));
        }
    }

    static void ask() {
        whatComes();
        whatBecomesOfIt();
        aheadOfNotDone();
        whatIsAsked();
        ofTwo();
        with("eighths 5", "root 5", "cubed 5", "again 5", "eighths -8", "-zero", "endless", "-endless");
        rootWhole();
        numbers();
        stretches();
    }
}
