/**
 * Eight cells of NUMBERS: eighths and whole ones, their cube roots, and cubes of these again.
 *
 * <p>What is asked of a NUMBER is told of its TRUE number, by whole numbers alone. Only STEPS go by
 * the 64 digits; the class Library tells these anew, whenever they are asked for.
 */
public final class Cubequarry {
    private static final int CELLS = 8;
    private static final int NONE = -1;
    private static final int NOT_DONE = -9;
    private static final int MANY_EIGHTHS = 65535;
    private static final int ENDLESS_T = 1000000;
    /** Above it twice the cube of a is more than any number that is asked for WAYS. */
    private static final int LAST_A = 31;

    private final Figure[] cells = new Figure[CELLS];
    /** What the cells had before an act that moves them all. */
    private final Figure[] before = new Figure[CELLS];
    /** Where a NUMBER is made, before it comes to a cell or is asked something. */
    private final Figure made = new Figure();
    private final Figure beside = new Figure();
    private int acts;
    private int notDone;
    private int knocks;

    public Cubequarry() {
        for (int i = 0; i < CELLS; i++) {
            cells[i] = new Figure();
            before[i] = new Figure();
        }
    }

    // ---- what comes

    public int eighths(int cell, int t) throws IndexOutOfBoundsException, IllegalArgumentException {
        Figure at = cellAt(cell);
        require(isFromTo(t, -MANY_EIGHTHS, MANY_EIGHTHS));
        made.put(Figure.EXACT, t);
        return come(made, at);
    }

    public int units(int cell, int n) throws IndexOutOfBoundsException, IllegalArgumentException {
        Figure at = cellAt(cell);
        require(isFromTo(n, -MANY_EIGHTHS, MANY_EIGHTHS));
        made.put(Figure.EXACT, 8 * n);
        return come(made, at);
    }

    public int zero(int cell, boolean isBelow) throws IndexOutOfBoundsException {
        Figure at = cellAt(cell);
        made.putSigned(Figure.EXACT, isBelow);
        return come(made, at);
    }

    public int endless(int cell, boolean isBelow) throws IndexOutOfBoundsException {
        Figure at = cellAt(cell);
        made.putSigned(Figure.ENDLESS, isBelow);
        return come(made, at);
    }

    public int row(int from, int by) throws IllegalArgumentException {
        require(isFromTo(from, -MANY_EIGHTHS, MANY_EIGHTHS) && isFromTo(by, -8192, 8192));
        // The ones between the first and the last one lie between these two.
        if (!isFromTo(from + (CELLS - 1) * by, -MANY_EIGHTHS, MANY_EIGHTHS)) {
            return refuse();
        }
        int changed = 0;
        int t = from;
        for (Figure at : cells) {
            made.put(Figure.EXACT, t);
            changed += replace(made, at);
            t += by;
        }
        acts++;
        return changed;
    }

    public int copy(int cell, int into) throws IndexOutOfBoundsException {
        Figure from = cellAt(cell);
        return come(from, cellAt(into));
    }

    public int step(int cell, int by) throws IndexOutOfBoundsException, IllegalArgumentException {
        Figure at = cellAt(cell);
        require(isFromTo(by, -MANY_EIGHTHS, MANY_EIGHTHS));
        if (at.kind != Figure.EXACT || !WholeNumbers.isOfSet(at.t + by)) {
            return refuse();
        }
        made.put(Figure.EXACT, at.t + by);
        return come(made, at);
    }

    public int turn(int cell) throws IndexOutOfBoundsException {
        cellAt(cell).changeSign();
        acts++;
        return 1;
    }

    // ---- what becomes of it

    public int root(int cell, int into) throws IndexOutOfBoundsException {
        return become(Change.ROOTED, cell, into);
    }

    public int cube(int cell, int into) throws IndexOutOfBoundsException {
        return become(Change.CUBED, cell, into);
    }

    public int twice(int cell, int into) throws IndexOutOfBoundsException {
        return become(Change.TWICE, cell, into);
    }

    public int half(int cell, int into) throws IndexOutOfBoundsException {
        return become(Change.HALF, cell, into);
    }

    public int eightfold(int cell, int into) throws IndexOutOfBoundsException {
        return become(Change.EIGHT_TIMES, cell, into);
    }

    public int all(int how) throws IllegalArgumentException {
        require(isFromTo(how, Change.ROOTED, Change.EIGHT_TIMES));
        int could = 0;
        for (Figure at : cells) {
            if (Change.make(how, at, made)) {
                at.take(made);
                could++;
            }
        }
        acts++;
        return could;
    }

    public int end(boolean isGreatest, int into) throws IndexOutOfBoundsException {
        Figure at = cellAt(into);
        Figure found = cells[0];
        for (Figure next : cells) {
            if (isGreatest ? Place.isAhead(found, next) : Place.isAhead(next, found)) {
                found = next;
            }
        }
        return come(found, at);
    }

    public int sort() {
        for (int i = 0; i < CELLS; i++) {
            before[i].take(cells[i]);
        }
        for (int i = 1; i < CELLS; i++) {
            sink(i);
        }
        int changed = 0;
        for (int i = 0; i < CELLS; i++) {
            if (!Place.areAlike(before[i], cells[i])) {
                changed++;
            }
        }
        acts++;
        return changed;
    }

    // ---- what is asked of it

    public int kind(int cell) throws IndexOutOfBoundsException {
        return cellAt(cell).kind;
    }

    public int of(int cell) throws IndexOutOfBoundsException {
        Figure at = cellAt(cell);
        if (at.kind != Figure.ENDLESS) {
            return at.t;
        }
        return at.hasSignBelow ? -ENDLESS_T : ENDLESS_T;
    }

    public boolean isBelow(int cell) throws IndexOutOfBoundsException {
        return cellAt(cell).hasSignBelow;
    }

    public int whole(int cell, int k)
            throws IndexOutOfBoundsException, IllegalArgumentException, IllegalStateException {
        Figure at = cellAt(cell);
        require(isFromTo(k, -20, 40));
        requireState(at.hasDecimals());
        return asInt(Telling.wholeByPower(at, k));
    }

    public int decimals(int cell, int d)
            throws IndexOutOfBoundsException, IllegalArgumentException, IllegalStateException {
        Figure at = cellAt(cell);
        require(isFromTo(d, 0, 3));
        requireState(at.hasDecimals());
        return (int) Telling.wholeByTens(at, d);
    }

    public int height(int cell) throws IndexOutOfBoundsException, IllegalStateException {
        Figure at = cellAt(cell);
        requireState(at.isTall());
        return Telling.tallness(at);
    }

    public int digits(int cell) throws IndexOutOfBoundsException, IllegalStateException {
        Figure at = cellAt(cell);
        requireState(at.isTall());
        return (int) Telling.firstDigits(at);
    }

    public int upper(int cell) throws IndexOutOfBoundsException, IllegalStateException {
        Figure at = cellAt(cell);
        requireState(at.hasToldDigits());
        return (int) (Library.tell(at) >> 32);
    }

    public int lower(int cell) throws IndexOutOfBoundsException, IllegalStateException {
        Figure at = cellAt(cell);
        requireState(at.hasToldDigits());
        return (int) Library.tell(at);
    }

    public String text(int cell) throws IndexOutOfBoundsException {
        return Telling.written(cellAt(cell));
    }

    // ---- of two, and of all

    public int order(int one, int other) throws IndexOutOfBoundsException {
        Figure first = cellAt(one);
        return Place.compared(first, cellAt(other));
    }

    public boolean isAlike(int one, int other) throws IndexOutOfBoundsException {
        Figure first = cellAt(one);
        return Place.areAlike(first, cellAt(other));
    }

    public boolean isNear(int one, int other) throws IndexOutOfBoundsException {
        Figure first = cellAt(one);
        return Place.areNear(first, cellAt(other));
    }

    public int most(int one, int other) throws IndexOutOfBoundsException, IllegalStateException {
        Figure first = cellAt(one);
        Figure second = cellAt(other);
        requireState(Place.areNear(first, second));
        return Place.mostSteps(first);
    }

    public boolean isWithin(int one, int other) throws IndexOutOfBoundsException, IllegalStateException {
        Figure first = cellAt(one);
        Figure second = cellAt(other);
        requireState(Place.areNear(first, second));
        return Place.keepsMostSteps(first, second);
    }

    public int find(int cell, boolean isLast) throws IndexOutOfBoundsException {
        Figure sought = cellAt(cell);
        int found = cell;
        for (int i = 0; i < CELLS; i++) {
            boolean isBetter = isLast ? i > found : i < found;
            if (isBetter && Place.areAlike(cells[i], sought)) {
                found = i;
            }
        }
        return found;
    }

    public int rank(int cell) throws IndexOutOfBoundsException {
        Figure at = cellAt(cell);
        int ahead = 0;
        for (Figure next : cells) {
            if (Place.isAhead(next, at)) {
                ahead++;
            }
        }
        return ahead;
    }

    // ---- without cells

    public int rootWhole(int t, int k) throws IllegalArgumentException, IllegalStateException {
        require(WholeNumbers.isOfSet(t) && isFromTo(k, -20, 40));
        putRooted(made, t);
        return asInt(Telling.wholeByPower(made, k));
    }

    public int wholePart(int n) throws IllegalArgumentException {
        require(isFromTo(n, 0, MANY_EIGHTHS));
        return (int) WholeNumbers.cubeRoot(n);
    }

    public boolean isCube(int t) throws IllegalArgumentException {
        require(isFromTo(t, -MANY_EIGHTHS, MANY_EIGHTHS));
        return WholeNumbers.isThirdPower(t);
    }

    public int rootOfCube(int a) throws IllegalArgumentException {
        require(isFromTo(a, 0, 208000));
        return (int) WholeNumbers.cubeRoot(WholeNumbers.thirdPower(a));
    }

    public int product(int a, int b) throws IllegalArgumentException {
        require(isFromTo(a, -128, 128) && isFromTo(b, -128, 128));
        return (int) WholeNumbers.signedCubeRoot(WholeNumbers.thirdPower(a) * WholeNumbers.thirdPower(b));
    }

    public int ways(int n) throws IllegalArgumentException {
        require(isFromTo(n, 0, MANY_EIGHTHS));
        return countWays(n);
    }

    public int way(int n, int i) throws IllegalArgumentException {
        require(isFromTo(n, 0, MANY_EIGHTHS) && isFromTo(i, 0, 9));
        int ahead = 0;
        for (int a = 1; a <= LAST_A; a++) {
            if (startsWay(n, a)) {
                if (ahead == i) {
                    return a;
                }
                ahead++;
            }
        }
        return NONE;
    }

    public int twoWays(int from, int many) throws IllegalArgumentException {
        require(isStretch(from, many, 0, 100, MANY_EIGHTHS + 1));
        int found = 0;
        for (int n = from; n < from + many; n++) {
            if (countWays(n) >= 2) {
                found++;
            }
        }
        return found;
    }

    public int stepsUp(int from, int many) throws IllegalArgumentException {
        require(isStretch(from, many, 0, 200, MANY_EIGHTHS));
        int found = 0;
        for (int n = from; n < from + many; n++) {
            if (WholeNumbers.cubeRoot(n + 1) > WholeNumbers.cubeRoot(n)) {
                found++;
            }
        }
        return found;
    }

    public int nextStep(int n) throws IllegalArgumentException {
        require(isFromTo(n, 0, 8000));
        return (int) WholeNumbers.thirdPower(WholeNumbers.cubeRoot(n) + 1);
    }

    public boolean rises(boolean isUnits, int from, int many) throws IllegalArgumentException {
        require(isStretch(from, many, -MANY_EIGHTHS, 200, MANY_EIGHTHS));
        int unit = isUnits ? 8 : 1;
        for (int n = from; n < from + many; n++) {
            putRooted(made, unit * n);
            putRooted(beside, unit * (n + 1));
            if (!Place.isAhead(made, beside)) {
                return false;
            }
        }
        return true;
    }

    public boolean opposite(int t) throws IllegalArgumentException {
        require(isFromTo(t, -MANY_EIGHTHS, MANY_EIGHTHS));
        made.put(Figure.EXACT, t);
        beside.take(made);
        beside.changeSign();
        Change.make(Change.ROOTED, made, made);
        Change.make(Change.ROOTED, beside, beside);
        return (Library.tell(made) ^ Library.tell(beside)) == Library.SIGN;
    }

    public boolean eight(int t) throws IllegalArgumentException {
        require(isFromTo(t, -MANY_EIGHTHS, MANY_EIGHTHS));
        putRooted(made, t);
        putRooted(beside, 8 * t);
        return Library.tell(beside) == Library.twiceAsGreat(Library.tell(made));
    }

    public boolean comesNear(int t) throws IllegalArgumentException {
        require(isFromTo(t, 1, MANY_EIGHTHS));
        made.put(Figure.EXACT, t);
        long exact = Library.tell(made);
        Change.make(Change.ROOTED, made, made);
        long rooted = Library.tell(made);
        Change.make(Change.CUBED, made, made);
        long cubed = Library.tell(made);
        Change.make(Change.ROOTED, made, made);
        long again = Library.tell(made);
        return Library.countSteps(cubed, exact) <= Place.STEPS_OF_CUBED
                && Library.countSteps(again, rooted) <= Place.STEPS_OF_AGAIN;
    }

    public int below(int from, int many, int n, int k) throws IllegalArgumentException {
        require(isStretch(from, many, -MANY_EIGHTHS, 200, MANY_EIGHTHS + 1) && isFromTo(k, -20, 40));
        int found = 0;
        for (int t = from; t < from + many; t++) {
            putRooted(made, t);
            // A number is less than a whole one just if it is so rounded down.
            if (Telling.wholeByPower(made, k) < n) {
                found++;
            }
        }
        return found;
    }

    // ---- the whole

    public int house(int what) throws IllegalArgumentException {
        require(isFromTo(what, 0, 4));
        switch (what) {
            case 0:
                return acts;
            case 1:
                return notDone;
            case 2:
                return knocks;
            case 3:
                return countExact();
            default:
                return countNearPairs();
        }
    }

    public int knock() {
        knocks++;
        return knocks;
    }

    /** That the 64 digits are told again alike holds by itself: none are kept, see Library. */
    public boolean isSound() {
        for (Figure at : cells) {
            if (at.kind == Figure.ROOT && !isRootSound(at)) {
                return false;
            }
        }
        for (Figure one : cells) {
            for (Figure other : cells) {
                if (!isPairSound(one, other)) {
                    return false;
                }
            }
        }
        return isOrderUnbroken();
    }

    public long digest() {
        long d = 7919;
        for (int cell = 0; cell < CELLS; cell++) {
            d = mixCell(d, cell);
        }
        for (int one = 0; one < CELLS; one++) {
            for (int other = one + 1; other < CELLS; other++) {
                d = mix(d, order(one, other));
            }
        }
        for (int what = 0; what <= 4; what++) {
            d = mix(d, house(what));
        }
        return mix(d, isSound() ? 1 : 0);
    }

    // ---- what the methods above share

    private Figure cellAt(int cell) throws IndexOutOfBoundsException {
        if (cell < 0 || cell >= CELLS) {
            throw new IndexOutOfBoundsException("a cell is 0 to 7");
        }
        return cells[cell];
    }

    private static boolean isFromTo(int n, int least, int greatest) {
        return n >= least && n <= greatest;
    }

    /** Whether the stretch starts well, has not too many numbers, and ends not above lastEnd. */
    private static boolean isStretch(int from, int many, int leastFrom, int mostMany, int lastEnd) {
        return isFromTo(from, leastFrom, MANY_EIGHTHS) && isFromTo(many, 0, mostMany)
                && from + many <= lastEnd;
    }

    private static void require(boolean isLet) throws IllegalArgumentException {
        if (!isLet) {
            throw new IllegalArgumentException("an argument is not of those that are let");
        }
    }

    private static void requireState(boolean isSo) throws IllegalStateException {
        if (!isSo) {
            throw new IllegalStateException("what the cells have can not be asked this");
        }
    }

    private static int asInt(long n) throws IllegalStateException {
        if (n != (int) n) {
            throw new IllegalStateException("the number has more than 32 bits");
        }
        return (int) n;
    }

    private int refuse() {
        notDone++;
        return NOT_DONE;
    }

    private static int replace(Figure what, Figure at) {
        int came = Place.areAlike(what, at) ? 0 : 1;
        at.take(what);
        return came;
    }

    private int come(Figure what, Figure at) {
        acts++;
        return replace(what, at);
    }

    private int become(int how, int cell, int into) throws IndexOutOfBoundsException {
        Figure from = cellAt(cell);
        Figure at = cellAt(into);
        if (!Change.make(how, from, made)) {
            return refuse();
        }
        return come(made, at);
    }

    /** Moves what the cell i has ahead, past all of the sorted ones that it stands ahead of. */
    private void sink(int i) {
        for (int j = i; j > 0 && j < CELLS; j--) {
            Figure later = cells[j];
            if (!Place.isAhead(later, cells[j - 1])) {
                return;
            }
            cells[j] = cells[j - 1];
            cells[j - 1] = later;
        }
    }

    private static void putRooted(Figure into, int t) {
        into.put(Figure.EXACT, t);
        Change.make(Change.ROOTED, into, into);
    }

    private static boolean startsWay(int n, int a) {
        int cubeOfA = a * a * a;
        return n - cubeOfA >= cubeOfA && WholeNumbers.isThirdPower(n - cubeOfA);
    }

    private static int countWays(int n) {
        int found = 0;
        for (int a = 1; a <= LAST_A; a++) {
            if (startsWay(n, a)) {
                found++;
            }
        }
        return found;
    }

    private int countExact() {
        int found = 0;
        for (Figure at : cells) {
            if (at.kind == Figure.EXACT) {
                found++;
            }
        }
        return found;
    }

    private int countNearPairs() {
        int found = 0;
        for (int i = 0; i < CELLS; i++) {
            for (int j = i + 1; j < CELLS; j++) {
                if (Place.areNear(cells[i], cells[j])) {
                    found++;
                }
            }
        }
        return found;
    }

    private static boolean isRootSound(Figure at) {
        long size = Math.abs(at.t);
        long w = WholeNumbers.rootByPower(size, 8);
        return WholeNumbers.thirdPower(w) <= size << 21 && WholeNumbers.thirdPower(w + 1) > size << 21;
    }

    private static boolean isPairSound(Figure one, Figure other) {
        if (Place.areNear(one, other)) {
            return Place.keepsMostSteps(one, other);
        }
        int fromOne = Place.compared(one, other);
        return fromOne == -Place.compared(other, one)
                && (fromOne == 0) == Place.areAlike(one, other);
    }

    private boolean isOrderUnbroken() {
        for (Figure first : cells) {
            for (Figure second : cells) {
                for (Figure third : cells) {
                    if (!Place.isAhead(second, first) && !Place.isAhead(third, second)
                            && Place.isAhead(third, first)) {
                        return false;
                    }
                }
            }
        }
        return true;
    }

    private static long mix(long d, long v) {
        return d * 31 + v;
    }

    private long mixCell(long start, int cell) throws IndexOutOfBoundsException {
        Figure at = cellAt(cell);
        long d = mix(start, at.kind);
        d = mix(d, of(cell));
        d = mix(d, at.hasSignBelow ? 1 : 0);
        d = mix(d, at.hasDecimals() ? Telling.wholeByTens(at, 3) : 0);
        if (at.isTall()) {
            d = mix(d, Telling.tallness(at));
            d = mix(d, Telling.firstDigits(at));
        } else {
            d = mix(d, 0);
        }
        if (at.hasToldDigits()) {
            d = mix(d, upper(cell));
            d = mix(d, lower(cell));
        } else {
            d = mix(d, 0);
        }
        d = mix(d, find(cell, false));
        d = mix(d, find(cell, true));
        return mix(d, rank(cell));
    }

    /** A NUMBER. One figure is used again for whatever NUMBER comes to its place. */
    private static final class Figure {
        static final int EXACT = 0;
        static final int ENDLESS = 1;
        static final int ROOT = 2;
        static final int CUBED = 3;
        static final int AGAIN = 4;

        int kind;
        /** 0 of an ENDLESS one, which has none. */
        int t;
        boolean hasSignBelow;

        /** Of 0 it is ZERO ABOVE. */
        void put(int newKind, int newT) {
            kind = newKind;
            t = newT;
            hasSignBelow = newT < 0;
        }

        /** A ZERO, or an ENDLESS one. */
        void putSigned(int newKind, boolean isSignBelow) {
            kind = newKind;
            t = 0;
            hasSignBelow = isSignBelow;
        }

        void take(Figure from) {
            kind = from.kind;
            t = from.t;
            hasSignBelow = from.hasSignBelow;
        }

        void changeSign() {
            t = -t;
            hasSignBelow = !hasSignBelow;
        }

        boolean isZeroOrEndless() {
            return t == 0;
        }

        /** Whether it is of those of which the WHOLE and DECIMALS are told. */
        boolean hasDecimals() {
            return kind == EXACT || kind == ROOT;
        }

        /** Whether it has a HEIGHT. */
        boolean isTall() {
            return hasDecimals() && t != 0;
        }

        /** Whether the document tells all of its 64 digits. */
        boolean hasToldDigits() {
            return kind == EXACT || kind == ENDLESS;
        }

        boolean isTrueRoot() {
            return kind == ROOT || kind == AGAIN;
        }
    }

    /** What becomes of NUMBERS: section 2 of the document. */
    private static final class Change {
        static final int ROOTED = 1;
        static final int CUBED = 2;
        static final int TWICE = 3;
        static final int HALF = 4;
        static final int EIGHT_TIMES = 5;

        /** Tells whether it can be; just then into has it. The two figures may be one. */
        static boolean make(int how, Figure from, Figure into) {
            if (from.isZeroOrEndless()) {
                into.take(from);
                return true;
            }
            switch (how) {
                case ROOTED:
                    return makeRooted(from, into);
                case CUBED:
                    return makeCubed(from, into);
                case TWICE:
                    return makeTwice(from, into);
                case HALF:
                    return makeHalf(from, into);
                case EIGHT_TIMES:
                    return makeEightTimes(from, into);
                default:
                    return false;
            }
        }

        private static boolean makeRooted(Figure from, Figure into) {
            if (from.kind == Figure.CUBED) {
                into.put(Figure.AGAIN, from.t);
                return true;
            }
            if (from.kind != Figure.EXACT) {
                return false;
            }
            long a = WholeNumbers.signedCubeRoot(from.t);
            if (WholeNumbers.thirdPower(a) == from.t) {
                into.put(Figure.EXACT, 4 * (int) a);
            } else {
                into.put(Figure.ROOT, from.t);
            }
            return true;
        }

        private static boolean makeCubed(Figure from, Figure into) {
            if (from.kind == Figure.ROOT) {
                into.put(Figure.CUBED, from.t);
                return true;
            }
            if (from.kind != Figure.EXACT || from.t % 4 != 0) {
                return false;
            }
            return putIfOfSet(Figure.EXACT, WholeNumbers.thirdPower(from.t / 4), into);
        }

        private static boolean makeTwice(Figure from, Figure into) {
            if (from.kind == Figure.EXACT) {
                return putIfOfSet(Figure.EXACT, 2L * from.t, into);
            }
            return from.kind == Figure.ROOT && putIfOfSet(Figure.ROOT, 8L * from.t, into);
        }

        private static boolean makeHalf(Figure from, Figure into) {
            if (from.kind == Figure.EXACT) {
                return from.t % 2 == 0 && putIfOfSet(Figure.EXACT, from.t / 2, into);
            }
            return from.kind == Figure.ROOT && from.t % 8 == 0
                    && putIfOfSet(Figure.ROOT, from.t / 8, into);
        }

        private static boolean makeEightTimes(Figure from, Figure into) {
            boolean isLet = from.kind == Figure.EXACT || from.kind == Figure.CUBED;
            return isLet && putIfOfSet(from.kind, 8L * from.t, into);
        }

        private static boolean putIfOfSet(int kind, long t, Figure into) {
            if (!WholeNumbers.isOfSet(t)) {
                return false;
            }
            into.put(kind, (int) t);
            return true;
        }
    }

    /** How NUMBERS stand to each other: ALIKE, NEAR, and ORDER. */
    private static final class Place {
        static final int STEPS_OF_CUBED = 4;
        static final int STEPS_OF_AGAIN = 1;

        static boolean areAlike(Figure one, Figure other) {
            return one.kind == other.kind && one.t == other.t && one.hasSignBelow == other.hasSignBelow;
        }

        static boolean areNear(Figure one, Figure other) {
            if (one.kind == other.kind || one.kind == Figure.ENDLESS || other.kind == Figure.ENDLESS) {
                return false;
            }
            return one.t == other.t && one.isTrueRoot() == other.isTrueRoot();
        }

        /** How many STEPS one of these that are NEAR is from the other one at most. */
        static int mostSteps(Figure one) {
            return one.isTrueRoot() ? STEPS_OF_AGAIN : STEPS_OF_CUBED;
        }

        static boolean keepsMostSteps(Figure one, Figure other) {
            return Library.countSteps(Library.tell(one), Library.tell(other)) <= mostSteps(one);
        }

        static boolean isAhead(Figure one, Figure other) {
            int endOfOne = endOf(one);
            int endOfOther = endOf(other);
            if (endOfOne != 0 || endOfOther != 0) {
                return endOfOne < endOfOther;
            }
            int byTrue = compareTrue(one, other);
            if (byTrue != 0) {
                return byTrue < 0;
            }
            return one.t == 0 && one.hasSignBelow && !other.hasSignBelow;
        }

        /** As order() tells it. */
        static int compared(Figure one, Figure other) {
            if (isAhead(one, other)) {
                return -1;
            }
            if (isAhead(other, one)) {
                return 1;
            }
            return areNear(one, other) ? 2 : 0;
        }

        private static int endOf(Figure one) {
            if (one.kind != Figure.ENDLESS) {
                return 0;
            }
            return one.hasSignBelow ? -1 : 1;
        }

        /** Below 0, 0, or above 0, as the TRUE number of the first one is less, as great, or greater. */
        private static int compareTrue(Figure one, Figure other) {
            if (one.isTrueRoot() == other.isTrueRoot()) {
                return Integer.compare(one.t, other.t);
            }
            if (one.isTrueRoot()) {
                return Long.compare(64L * one.t, WholeNumbers.thirdPower(other.t));
            }
            return Long.compare(WholeNumbers.thirdPower(one.t), 64L * other.t);
        }
    }

    /** What is told of one NUMBER: WHOLE, DECIMALS, HEIGHT, DIGITS, text. */
    private static final class Telling {
        private static final int[] TENS = {1, 10, 100, 1000};

        /** The WHOLE by k; one of more than 32 bits may be told as any other such of the same SIGN. */
        static long wholeByPower(Figure at, int k) {
            if (at.kind == Figure.EXACT) {
                return k >= 3 ? (long) at.t << (k - 3) : (long) at.t >> (3 - k);
            }
            return roundedDown(WholeNumbers.rootByPower(Math.abs(at.t), k), at.t < 0);
        }

        static long wholeByTens(Figure at, int d) {
            if (d < 0 || d >= TENS.length) {
                return 0;
            }
            long tens = TENS[d];
            if (at.kind == Figure.EXACT) {
                return Math.floorDiv(at.t * tens, 8L);
            }
            long size = Math.abs(at.t);
            return roundedDown(WholeNumbers.cubeRoot(size * tens * tens * tens / 8), at.t < 0);
        }

        static int tallness(Figure at) {
            int heightOfT = WholeNumbers.lastPower(Math.abs(at.t));
            return at.kind == Figure.EXACT ? heightOfT - 3 : heightOfT / 3 - 1;
        }

        static long firstDigits(Figure at) {
            long size = Math.abs(at.t);
            if (at.kind == Figure.EXACT) {
                return size << (30 - WholeNumbers.lastPower(size));
            }
            return WholeNumbers.rootByPower(size, 30 - tallness(at));
        }

        static String written(Figure at) {
            StringBuilder text = new StringBuilder();
            if (at.isZeroOrEndless()) {
                text.append(at.hasSignBelow ? "-" : "");
                return text.append(at.kind == Figure.ENDLESS ? "endless" : "zero").toString();
            }
            return text.append(nameOf(at.kind)).append(' ').append(at.t).toString();
        }

        /** No ROOT, nor a multiple of it by a whole number, is a whole number: t is no CUBE. */
        private static long roundedDown(long size, boolean isNegative) {
            return isNegative ? -size - 1 : size;
        }

        private static String nameOf(int kind) {
            switch (kind) {
                case Figure.ROOT:
                    return "root";
                case Figure.CUBED:
                    return "cubed";
                case Figure.AGAIN:
                    return "again";
                default:
                    return "eighths";
            }
        }
    }

    /** Whole numbers: the SET, CUBES, and cube roots rounded down. */
    private static final class WholeNumbers {
        /** Numbers of more than 63 bits are told as high * 2^31 + low. */
        private static final int LOW_BITS = 31;
        private static final long LOW = (1L << LOW_BITS) - 1;
        private static final long TOO_LARGE = 1L << LOW_BITS;

        static boolean isOfSet(long t) {
            long size = Math.abs(t);
            return size <= MANY_EIGHTHS || (size <= 8 * MANY_EIGHTHS && t % 8 == 0);
        }

        static long thirdPower(long a) {
            return a * a * a;
        }

        /** Whether it is a CUBE. */
        static boolean isThirdPower(long n) {
            return thirdPower(signedCubeRoot(n)) == n;
        }

        /** Rounded towards 0. */
        static long signedCubeRoot(long n) {
            return n < 0 ? -cubeRoot(-n) : cubeRoot(n);
        }

        /** The greatest whole number whose cube is not above n (n not below 0). */
        static long cubeRoot(long n) {
            long root = 0;
            for (int bit = 20; bit >= 0; bit--) {
                long tried = root + (1L << bit);
                if (tried * tried * tried <= n) {
                    root = tried;
                }
            }
            return root;
        }

        /** Half of the cube root of size, times 2^k, rounded down; TOO_LARGE, if it is that or more. */
        static long rootByPower(long size, int k) {
            int power = 3 * k - 3;
            if (power < 0) {
                return cubeRoot(size >> -power);
            }
            int lastBit = lastPower(size) + power;
            if (lastBit < 63) {
                return cubeRoot(size << power);
            }
            return lastBit < 3 * LOW_BITS ? longCubeRoot(size << (power - LOW_BITS)) : TOO_LARGE;
        }

        /** The greatest power of two in n (n above 0). */
        static int lastPower(long n) {
            return 63 - Long.numberOfLeadingZeros(n);
        }

        /** The cube root of high * 2^31, rounded down (high less than 2^62). */
        private static long longCubeRoot(long high) {
            long root = 0;
            for (int bit = LOW_BITS - 1; bit >= 0; bit--) {
                long tried = root + (1L << bit);
                if (!isThirdPowerAbove(tried, high)) {
                    root = tried;
                }
            }
            return root;
        }

        /** Whether the cube of a is above high * 2^31 (a less than 2^31, so nothing overflows). */
        private static boolean isThirdPowerAbove(long a, long high) {
            long square = a * a;
            long lowTimes = (square & LOW) * a;
            long cubeHigh = (square >> LOW_BITS) * a + (lowTimes >> LOW_BITS);
            return cubeHigh > high || (cubeHigh == high && (lowTimes & LOW) > 0);
        }
    }

    /**
     * The 64 digits of NUMBERS, by KIND, t and SIGN alone. Those of the KINDS 2 to 4 are got as the
     * document tells it: a cube root near the true one, that multiplied by itself and by itself again,
     * and the cube root of this.
     */
    private static final class Library {
        static final long SIGN = 1L << 63;
        private static final long ONE_EXPONENT = 1L << 52;
        private static final long ENDLESS_DIGITS = 2047L << 52;

        static long tell(Figure at) {
            long digits = 0;
            if (at.kind == Figure.ENDLESS) {
                digits = ENDLESS_DIGITS;
            } else if (at.t != 0) {
                digits = digitsOf(nearTrue(at.kind, Math.abs(at.t)));
            }
            return at.hasSignBelow ? digits | SIGN : digits;
        }

        /** Of two with the same sign. */
        static long countSteps(long one, long other) {
            return Math.abs(one - other);
        }

        /** Twice as great is the EXPONENT one more; but a ZERO stays. */
        static long twiceAsGreat(long digits) {
            return (digits & ~SIGN) == 0 ? digits : digits + ONE_EXPONENT;
        }

        private static double nearTrue(int kind, int size) {
            double exact = size / 8.0;
            if (kind == Figure.EXACT) {
                return exact;
            }
            double root = nearRoot(exact);
            if (kind == Figure.ROOT) {
                return root;
            }
            double cubed = root * root * root;
            return kind == Figure.CUBED ? cubed : nearRoot(cubed);
        }

        /** Those of a number above 0 that is not far from 1 (from 2^-40 to 2^40). */
        private static long digitsOf(double number) {
            double lead = number;
            long exponent = 1023;
            for (int i = 0; i < 40 && lead >= 2; i++) {
                lead /= 2;
                exponent++;
            }
            for (int i = 0; i < 40 && lead < 1; i++) {
                lead *= 2;
                exponent--;
            }
            long fraction = (long) (lead * ONE_EXPONENT) - ONE_EXPONENT;
            return (exponent << 52) + fraction;
        }

        /** The cube root, less than one STEP from the true one. */
        private static double nearRoot(double number) {
            double lead = number;
            double scale = 1;
            // By eights, so that the root of eight times a number has the same FRACTION.
            for (int i = 0; i < 8 && lead >= 8; i++) {
                lead /= 8;
                scale *= 2;
            }
            for (int i = 0; i < 8 && lead < 1; i++) {
                lead *= 8;
                scale /= 2;
            }
            double root = 1.5;
            for (int i = 0; i < 8; i++) {
                root = (root + root + lead / (root * root)) / 3;
            }
            // The square of so short a root is exact, and the last small change hardly rounds at all.
            double shorter = (float) root;
            double third = lead / (shorter * shorter);
            return scale * (shorter + shorter * ((third - shorter) / (shorter + shorter + third)));
        }
    }
}
