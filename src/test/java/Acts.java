/** The sentences of the promises 1 to 17 that name a boundary; their Throws rows are in Rows. */
final class Acts {
    private static final int MOST = Cells.MOST;
    private static final String SIX_ZEROS = "zero/zero/zero/zero/zero/zero";
    private static final String SEVEN_ZEROS = SIX_ZEROS + "/zero";

    private Acts() {
    }

    private static void aNewObject() {
        Document.says(1, "Creates eight cells with ZERO ABOVE.");
        Cubequarry x = new Cubequarry();
        for (int cell = 0; cell < 8; cell++) {
            Check.is("text(" + cell + ")", x.text(cell), "zero");
            Check.is("isBelow(" + cell + ")", x.isBelow(cell), false);
        }
        for (int what : new int[] {0, 1, 2, 4}) {
            Check.is("house(" + what + ")", x.house(what), 0);
        }
        Cubequarry other = new Cubequarry();
        other.eighths(0, 1);
        Check.is("the cells, when another object's change", Cells.texts(x), "zero/" + SEVEN_ZEROS);
    }

    private static void eighthsAndUnits() {
        Document.says(2, "An EXACT one of so many eighths comes to a cell (of 0: ZERO ABOVE).");
        Cubequarry x = Cells.with("-zero");
        Cells.done("eighths(0, 0) to ZERO BELOW", x, y -> y.eighths(0, 0), 1, "zero/" + SEVEN_ZEROS);
        Cells.done("eighths(0, 0) to ZERO ABOVE", x, y -> y.eighths(0, 0), 0, "zero/" + SEVEN_ZEROS);
        Cells.done("the greatest", x, y -> y.eighths(0, MOST), 1, "eighths 65535/" + SEVEN_ZEROS);
        Cells.done("the greatest again", x, y -> y.eighths(0, MOST), 0, "eighths 65535/" + SEVEN_ZEROS);
        Cells.done("the least", x, y -> y.eighths(0, -MOST), 1, "eighths -65535/" + SEVEN_ZEROS);
        x = Cells.with("root 5", "cubed 5", "again 5");
        Cells.done("to a ROOT of the same t", x, y -> y.eighths(0, 5), 1,
                "eighths 5/cubed 5/again 5/zero/zero/zero/zero/zero");
        Cells.done("to a NEAR one", x, y -> y.eighths(1, 5), 1, "eighths 5/eighths 5/again 5/zero/zero/zero/zero/zero");
        Cells.done("to an AGAIN of the same t", x, y -> y.eighths(2, 5), 1,
                "eighths 5/eighths 5/eighths 5/zero/zero/zero/zero/zero");
        Document.says(3, "An EXACT one that is a whole number comes to a cell (of 0: ZERO ABOVE).");
        x = Cells.with("-zero");
        Cells.done("units(0, 0) to ZERO BELOW", x, y -> y.units(0, 0), 1, "zero/" + SEVEN_ZEROS);
        Cells.done("units(0, 0) to ZERO ABOVE", x, y -> y.units(0, 0), 0, "zero/" + SEVEN_ZEROS);
        Document.says(3, "the whole number (it is of 8 * n eighths)");
        Cells.done("the greatest", x, y -> y.units(0, MOST), 1, "eighths 524280/" + SEVEN_ZEROS);
        Cells.done("the least", x, y -> y.units(0, -MOST), 1, "eighths -524280/" + SEVEN_ZEROS);
        Cells.done("one", x, y -> y.units(0, 1), 1, "eighths 8/" + SEVEN_ZEROS);
        Cells.done("one, as eighths", x, y -> y.eighths(0, 8), 0, "eighths 8/" + SEVEN_ZEROS);
    }

    private static void zerosAndEndless() {
        Document.says(4, "whether ZERO BELOW, otherwise ZERO ABOVE");
        Cubequarry x = Cells.with("eighths 1");
        Cells.done("zero(0, false)", x, y -> y.zero(0, false), 1, "zero/" + SEVEN_ZEROS);
        Cells.done("zero(0, false) again", x, y -> y.zero(0, false), 0, "zero/" + SEVEN_ZEROS);
        Cells.done("zero(0, true)", x, y -> y.zero(0, true), 1, "-zero/" + SEVEN_ZEROS);
        Cells.done("zero(0, true) again", x, y -> y.zero(0, true), 0, "-zero/" + SEVEN_ZEROS);
        Document.says(5, "whether ENDLESS BELOW, otherwise ENDLESS ABOVE");
        x = Cells.with("zero");
        Cells.done("endless(0, false) to ZERO ABOVE", x, y -> y.endless(0, false), 1, "endless/" + SEVEN_ZEROS);
        Cells.done("endless(0, false) again", x, y -> y.endless(0, false), 0, "endless/" + SEVEN_ZEROS);
        Cells.done("endless(0, true)", x, y -> y.endless(0, true), 1, "-endless/" + SEVEN_ZEROS);
        Cells.done("endless(0, true) again", x, y -> y.endless(0, true), 0, "-endless/" + SEVEN_ZEROS);
        Cells.done("zero(0, true) to ENDLESS BELOW", x, y -> y.zero(0, true), 1, "-zero/" + SEVEN_ZEROS);
    }

    private static void row() {
        Document.says(6, "to each next one that of by more (of 0: ZERO ABOVE).");
        String zeroAmid = "eighths -3/eighths -2/eighths -1/zero/eighths 1/eighths 2/eighths 3/eighths 4";
        Cubequarry x = Cells.with("-zero", "-zero", "-zero", "-zero", "-zero", "-zero", "-zero", "-zero");
        Cells.done("row(-3, 1) to ZEROS BELOW", x, y -> y.row(-3, 1), 8, zeroAmid);
        Cells.done("row(-3, 1) again", x, y -> y.row(-3, 1), 0, zeroAmid);
        x.zero(3, true);
        Cells.done("row(-3, 1), one being ZERO BELOW", x, y -> y.row(-3, 1), 1, zeroAmid);
        Cells.done("row(0, 0)", x, y -> y.row(0, 0), 7, "zero/" + SEVEN_ZEROS);
        Cells.done("row(7, -1)", x, y -> y.row(7, -1), 7,
                "eighths 7/eighths 6/eighths 5/eighths 4/eighths 3/eighths 2/eighths 1/zero");
        Document.says(6, "-9 if one would not be of -65535 to 65535 eighths.");
        String greatest = "eighths 8191/eighths 16383/eighths 24575/eighths 32767/eighths 40959/eighths 49151/"
                + "eighths 57343/eighths 65535";
        Cells.done("row(8191, 8192), the last one the greatest", x, y -> y.row(8191, 8192), 8, greatest);
        Cells.notDone("row(8192, 8192)", x, y -> y.row(8192, 8192));
        Cells.done("row(-8191, -8192), the last one the least", x, y -> y.row(-8191, -8192), 8,
                greatest.replace(" ", " -"));
        Cells.notDone("row(-8192, -8192)", x, y -> y.row(-8192, -8192));
        Cells.notDone("row(65535, 1), all but the first one beyond", x, y -> y.row(MOST, 1));
        Cells.notDone("row(-65535, -1), all but the first one beyond", x, y -> y.row(-MOST, -1));
        Cells.notDone("row(65529, 1), the last one beyond", x, y -> y.row(65529, 1));
        Cells.notDone("row(-65529, -1), the last one beyond", x, y -> y.row(-65529, -1));
        Check.is("row(65528, 1)", x.row(65528, 1), 8);
        Check.is("row(-65528, -1)", x.row(-65528, -1), 8);
        Check.is("row(65535, 0)", x.row(MOST, 0), 8);
        Check.is("row(-65535, 8192)", x.row(-MOST, 8192), 8);
        Check.is("the last one of it", x.of(7), -8191);
    }

    private static void copyAndTurn() {
        Document.says(7, "What a cell has comes to another one, too.");
        Cubequarry x = Cells.with("again -5", "-zero", "-endless");
        Cells.done("copy(0, 7)", x, y -> y.copy(0, 7), 1, "again -5/-zero/-endless/zero/zero/zero/zero/again -5");
        Cells.done("copy(0, 7) again", x, y -> y.copy(0, 7), 0, "again -5/-zero/-endless/zero/zero/zero/zero/again -5");
        Cells.done("copy(1, 3)", x, y -> y.copy(1, 3), 1, "again -5/-zero/-endless/-zero/zero/zero/zero/again -5");
        Cells.done("copy(2, 0)", x, y -> y.copy(2, 0), 1, "-endless/-zero/-endless/-zero/zero/zero/zero/again -5");
        Cells.done("copy(2, 2), to itself", x, y -> y.copy(2, 2), 0,
                "-endless/-zero/-endless/-zero/zero/zero/zero/again -5");
        Cells.done("turn(0), not its copy", x, y -> y.turn(0), 1,
                "endless/-zero/-endless/-zero/zero/zero/zero/again -5");
        Document.says(9, "ZERO ABOVE becomes ZERO BELOW, ENDLESS ABOVE ENDLESS BELOW, and the other way round.");
        String above = "eighths 524280/root 524280/cubed 65535/again 2/zero/endless/";
        String below = "eighths -524280/root -524280/cubed -65535/again -2/-zero/-endless/";
        Cubequarry z = Cells.with((above + "zero/zero").split("/"));
        for (int cell = 0; cell < 6; cell++) {
            Check.is("turn(" + cell + ")", z.turn(cell), 1);
        }
        Check.is("the cells, turned", Cells.texts(z), below + "zero/zero");
        for (int cell = 0; cell < 6; cell++) {
            Check.is("isBelow(" + cell + ")", z.isBelow(cell), true);
            Check.is("turn(" + cell + ")", z.turn(cell), 1);
            Check.is("isBelow(" + cell + ")", z.isBelow(cell), false);
        }
        Check.is("the cells, turned back", Cells.texts(z), above + "zero/zero");
        Check.is("the acts", z.house(0), Cells.with((above + "zero/zero").split("/")).house(0) + 12);
    }

    private static void step() {
        Document.says(8, "An EXACT one becomes that of so many more eighths "
                + "(of 0: ZERO ABOVE, also of ZERO BELOW by 0: that is another one).");
        Cubequarry x = Cells.with("-zero");
        Cells.done("ZERO BELOW by 0", x, y -> y.step(0, 0), 1, "zero/" + SEVEN_ZEROS);
        Cells.done("ZERO ABOVE by 0", x, y -> y.step(0, 0), 0, "zero/" + SEVEN_ZEROS);
        Cells.done("ZERO ABOVE by -1", x, y -> y.step(0, -1), 1, "eighths -1/" + SEVEN_ZEROS);
        Cells.done("-1 by 1", x, y -> y.step(0, 1), 1, "zero/" + SEVEN_ZEROS);
        Cells.done("0 by 65535", x, y -> y.step(0, MOST), 1, "eighths 65535/" + SEVEN_ZEROS);
        Cells.done("65535 by -65535", x, y -> y.step(0, -MOST), 1, "zero/" + SEVEN_ZEROS);
        Cells.done("0 by -65535", x, y -> y.step(0, -MOST), 1, "eighths -65535/" + SEVEN_ZEROS);
        Cells.done("-65535 by 0", x, y -> y.step(0, 0), 0, "eighths -65535/" + SEVEN_ZEROS);
        Cubequarry below = Cells.with("-zero");
        Cells.done("ZERO BELOW by 5", below, y -> y.step(0, 5), 1, "eighths 5/" + SEVEN_ZEROS);
        Document.says(8, "-9 if there is no EXACT one, or what would come is not of the SET.");
        Cubequarry z = Cells.with("root 5", "cubed 5", "again 5", "endless", "-endless", "eighths 65535",
                "eighths 524280", "eighths -524280");
        for (int by : new int[] {0, 1, -5, 8, MOST, -MOST}) {
            for (int cell = 0; cell < 5; cell++) {
                int asked = cell;
                Cells.notDone("the cell " + cell + " by " + by, z, y -> y.step(asked, by));
            }
        }
        Cells.notDone("65535 by 65535, which 8 does not divide", z, y -> y.step(5, MOST));
        Cells.notDone("524280 by 65528, beyond", z, y -> y.step(6, 65528));
        Cells.notDone("524280 by -65535, which 8 does not divide", z, y -> y.step(6, -MOST));
        Cells.notDone("-524280 by -65528, beyond", z, y -> y.step(7, -65528));
        Cells.notDone("-524280 by 65535, which 8 does not divide", z, y -> y.step(7, MOST));
        Check.is("65535 by 65529, which makes 131064", z.step(5, 65529), 1);
        Check.is("524280 by -65528", z.step(6, -65528), 1);
        Check.is("the cells", Cells.texts(z), "root 5/cubed 5/again 5/endless/-endless/eighths 131064/eighths 458752/"
                + "eighths -524280");
    }

    private static void whatCanNotBe() {
        Cubequarry x = Cells.with("eighths 5", "root 5", "cubed 5", "again 5", "eighths 524280", "root 524280",
                "cubed 524280", "eighths -7");
        Document.says(10, "Returns CAME; -9 if it can not be ROOTED.");
        for (int cell : new int[] {1, 3, 5}) {
            Cells.notDone("the cell " + cell, x, y -> y.root(cell, 0));
            Cells.notDone("the cell " + cell + " into itself", x, y -> y.root(cell, cell));
        }
        Document.says(11, "Returns CAME; -9 if it can not be CUBED.");
        for (int cell : new int[] {0, 2, 3, 4, 6, 7}) {
            Cells.notDone("the cell " + cell, x, y -> y.cube(cell, 1));
            Cells.notDone("the cell " + cell + " into itself", x, y -> y.cube(cell, cell));
        }
        Document.says(12, "Returns CAME; -9 if it can not be told TWICE.");
        for (int cell : new int[] {2, 3, 4, 5, 6}) {
            Cells.notDone("the cell " + cell, x, y -> y.twice(cell, 1));
            Cells.notDone("the cell " + cell + " into itself", x, y -> y.twice(cell, cell));
        }
        Document.says(13, "Returns CAME; -9 if it can not be told HALF.");
        for (int cell : new int[] {0, 1, 2, 3, 4, 6, 7}) {
            Cells.notDone("the cell " + cell, x, y -> y.half(cell, 5));
            Cells.notDone("the cell " + cell + " into itself", x, y -> y.half(cell, cell));
        }
        Document.says(14, "Returns CAME; -9 if it can not be told EIGHT times.");
        for (int cell : new int[] {1, 3, 4, 5, 6}) {
            Cells.notDone("the cell " + cell, x, y -> y.eightfold(cell, 0));
            Cells.notDone("the cell " + cell + " into itself", x, y -> y.eightfold(cell, cell));
        }
    }

    private static void all() {
        Document.says(15, "Each cell whose NUMBER can be becomes it (ZEROS and ENDLESS ones can, by all five); "
                + "the others stay. (An act, also if none can.)");
        for (int how = 1; how <= 5; how++) {
            int given = how;
            String texts = "zero/-zero/endless/-endless/zero/-zero/endless/-endless";
            Cells.done("all(" + how + ")", Cells.with(texts.split("/")), y -> y.all(given), 8, texts);
        }
        String[] none = {"root 3", "eighths 5", "cubed 5", "eighths 5", "root 5"};
        for (int how = 1; how <= 5; how++) {
            int given = how;
            String one = none[how - 1];
            String texts = one + ("/" + one).repeat(7);
            Cells.done("all(" + how + ") of " + texts, Cells.with(texts.split("/")), y -> y.all(given), 0, texts);
        }
        Document.says(15, "1 ROOTED, 2 CUBED, 3 TWICE, 4 HALF, 5 EIGHT times");
        String[] due = {
            "root 5/root 16/again 5/again 5/eighths 8/eighths -8/root 524280/-zero",
            "eighths 5/cubed 16/cubed 5/again 5/eighths 8/eighths -8/eighths 524280/-zero",
            "eighths 10/root 128/cubed 5/again 5/eighths 16/eighths -16/eighths 524280/-zero",
            "eighths 5/root 2/cubed 5/again 5/eighths 4/eighths -4/eighths 524280/-zero",
            "eighths 40/root 16/cubed 40/again 5/eighths 64/eighths -64/eighths 524280/-zero"};
        int[] could = {6, 4, 5, 4, 5};
        for (int how = 1; how <= 5; how++) {
            int given = how;
            Cubequarry x = Cells.with("eighths 5", "root 16", "cubed 5", "again 5", "eighths 8", "eighths -8",
                    "eighths 524280", "-zero");
            Cells.done("all(" + how + ")", x, y -> y.all(given), could[how - 1], due[how - 1]);
        }
        Document.says(15, "Returns how many cells could (also if what came is ALIKE).");
        Cubequarry x = Cells.with("eighths 8", "eighths -8", "root 2", "eighths 4");
        // Two of them have another one then.
        Cells.done("all(2)", x, y -> y.all(2), 8, "eighths 8/eighths -8/cubed 2/eighths 1/zero/zero/zero/zero");
        Cells.done("all(2), of 8 cells 6 being able", x, y -> y.all(2), 6,
                "eighths 8/eighths -8/cubed 2/eighths 1/zero/zero/zero/zero");
    }

    private static void comesToCell3(boolean isGreatest, int due, String after, String... texts) {
        Cells.done("end(" + isGreatest + ", 3) of " + String.join("/", texts), Cells.with(texts),
                x -> x.end(isGreatest, 3), due, after);
    }

    private static void end() {
        Document.says(16, "Of all cells the one that stands ahead of no other one comes to a cell, or the one which no "
                + "other one stands ahead of; of several such ones that in the cell with the smallest number.");
        comesToCell3(true, 1, "zero/-endless/eighths 3/endless/zero/zero/zero/endless",
                "zero", "-endless", "eighths 3", "zero", "zero", "zero", "zero", "endless");
        comesToCell3(false, 1, "zero/-endless/eighths 3/-endless/zero/zero/zero/endless",
                "zero", "-endless", "eighths 3", "zero", "zero", "zero", "zero", "endless");
        // The first and the last cell, and that to which it comes, are among them.
        comesToCell3(true, 1, "eighths 9/zero/zero/eighths 9/zero/zero/zero/zero", "eighths 9");
        comesToCell3(false, 1, "eighths -9/zero/zero/eighths -9/zero/zero/zero/zero", "eighths -9");
        comesToCell3(true, 0, "zero/zero/zero/eighths 9/zero/zero/zero/zero", "zero", "zero", "zero", "eighths 9");
        comesToCell3(false, 0, "zero/zero/zero/root -9/zero/zero/zero/zero", "zero", "zero", "zero", "root -9");
        // ZEROS
        comesToCell3(true, 1, "-zero/-zero/-zero/zero/-zero/-zero/-zero/zero",
                "-zero", "-zero", "-zero", "-zero", "-zero", "-zero", "-zero", "zero");
        comesToCell3(false, 1, "zero/zero/zero/-zero/zero/zero/zero/-zero",
                "zero", "zero", "zero", "zero", "zero", "zero", "zero", "-zero");
        // Of NEAR ones neither stands ahead: that in the smallest cell comes.
        comesToCell3(true, 1, "zero/cubed 9/eighths 9/cubed 9/zero/zero/zero/zero", "zero", "cubed 9", "eighths 9");
        comesToCell3(true, 1, "zero/eighths 9/cubed 9/eighths 9/zero/zero/zero/zero", "zero", "eighths 9", "cubed 9");
        comesToCell3(true, 1, "zero/eighths 9/cubed 9/eighths 9/zero/zero/zero/zero",
                "zero", "eighths 9", "cubed 9", "cubed 9");
        comesToCell3(false, 1, "zero/again -9/root -9/again -9/zero/zero/zero/zero", "zero", "again -9", "root -9");
        comesToCell3(false, 1, "zero/root -9/again -9/root -9/zero/zero/zero/zero", "zero", "root -9", "again -9");
        comesToCell3(true, 1, "cubed 9/eighths 9/zero/cubed 9/zero/zero/zero/zero", "cubed 9", "eighths 9");
        comesToCell3(true, 1, "zero/zero/zero/root 9/zero/zero/root 9/again 9",
                "zero", "zero", "zero", "zero", "zero", "zero", "root 9", "again 9");
        comesToCell3(false, 1, "again -9/root -9/zero/again -9/zero/zero/zero/zero", "again -9", "root -9");
        comesToCell3(false, 1, "root -9/zero/zero/root -9/zero/zero/zero/again -9",
                "root -9", "zero", "zero", "zero", "zero", "zero", "zero", "again -9");
    }

    private static void sorted(int due, String after, String before) {
        Cells.done("sort() of " + before, Cells.with(before.split("/")), x -> x.sort(), due, after);
        Cells.done("sort() of " + after, Cells.with(after.split("/")), x -> x.sort(), 0, after);
    }

    private static void sort() {
        Document.says(17, "All cells are put in ORDER, what is ahead first; of those of which neither stands ahead, "
                + "the one that had the smaller cell stays ahead.");
        sorted(8, "-endless/eighths -9/root -9/-zero/zero/eighths 9/root 524280/endless",
                "endless/root 524280/eighths 9/zero/-zero/root -9/eighths -9/-endless");
        // 9 eighths are 1.125, their root is 1.04...: the roots stand ahead.
        sorted(8, "zero/zero/zero/zero/again 9/root 9/cubed 9/eighths 9",
                "cubed 9/eighths 9/again 9/root 9/zero/zero/zero/zero");
        sorted(6, "again 9/root 9/again 9/root 9/cubed 9/eighths 9/cubed 9/eighths 9",
                "cubed 9/again 9/eighths 9/root 9/cubed 9/again 9/eighths 9/root 9");
        sorted(0, "eighths 5/cubed 5/eighths 5/cubed 5/again 5/root 5/again 5/root 5",
                "eighths 5/cubed 5/eighths 5/cubed 5/again 5/root 5/again 5/root 5");
        Document.says(17, "Returns how many cells have another one then.");
        sorted(0, "zero/" + SEVEN_ZEROS, "zero/" + SEVEN_ZEROS);
        sorted(2, "-zero/" + SEVEN_ZEROS, "zero/" + SIX_ZEROS + "/-zero");
        sorted(2, "-zero/zero/" + SIX_ZEROS, "zero/-zero/" + SIX_ZEROS);
        sorted(8, "zero/zero/zero/zero/endless/endless/endless/endless",
                "endless/endless/endless/endless/zero/zero/zero/zero");
    }

    static void ask() {
        aNewObject();
        eighthsAndUnits();
        zerosAndEndless();
        row();
        copyAndTurn();
        step();
        whatCanNotBe();
        all();
        end();
        sort();
    }
}
