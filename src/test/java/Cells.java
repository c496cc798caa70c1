import java.util.Arrays;
import java.util.List;

/** Cells by their texts: what a test puts there, and what it finds there, as text() writes it. */
final class Cells {
    static final int MOST = 65535;

    interface Act {
        int on(Cubequarry x);
    }

    private Cells() {
    }

    /** One with these in its first cells. */
    static Cubequarry with(String... texts) {
        Cubequarry x = new Cubequarry();
        for (int cell = 0; cell < texts.length; cell++) {
            put(x, cell, texts[cell]);
        }
        String[] due = new String[8];
        Arrays.fill(due, "zero");
        System.arraycopy(texts, 0, due, 0, texts.length);
        Check.is("the cells", texts(x), String.join("/", due));
        return x;
    }

    static void put(Cubequarry x, int cell, String text) {
        if (text.endsWith("zero")) {
            x.zero(cell, text.equals("-zero"));
        } else if (text.endsWith("endless")) {
            x.endless(cell, text.equals("-endless"));
        } else {
            String[] parts = text.split(" ");
            putOf(x, cell, List.of("eighths", "root", "cubed", "again").indexOf(parts[0]), Integer.parseInt(parts[1]));
        }
    }

    private static void putOf(Cubequarry x, int cell, int acts, int t) {
        if (Math.abs(t) <= MOST) {
            x.eighths(cell, t);
        } else {
            x.units(cell, t / 8);
        }
        if (acts >= 1) {
            x.root(cell, cell);
        }
        if (acts >= 2) {
            x.cube(cell, cell);
        }
        if (acts == 3) {
            x.root(cell, cell);
        }
    }

    /** One of each kind and sign that matters. */
    static Cubequarry oneOfEach() {
        return with("eighths 5", "root 5", "cubed 5", "again 5", "eighths -8", "-zero", "endless", "-endless");
    }

    static String texts(Cubequarry x) {
        StringBuilder texts = new StringBuilder();
        for (int cell = 0; cell < 8; cell++) {
            texts.append(cell == 0 ? "" : "/").append(x.text(cell));
        }
        return texts.toString();
    }

    /** All that can be asked of it without a change. */
    static String state(Cubequarry x) {
        return texts(x) + ", " + x.house(0) + " acts, " + x.house(1) + " not done, " + x.house(2) + " knocks, digest "
                + x.digest();
    }

    /** The act is done: it answers so, is counted as one, and the cells are these then. */
    static void done(String what, Cubequarry x, Act act, int due, String texts) {
        int acts = x.house(0);
        int notDone = x.house(1);
        Check.is(what, act.on(x), due);
        Check.is("the cells after " + what, texts(x), texts);
        Check.is("the acts with " + what, x.house(0), acts + 1);
        Check.is("those not done with " + what, x.house(1), notDone);
    }

    /** The act answers -9, and all stays as it was, but that it is counted. */
    static void notDone(String what, Cubequarry x, Act act) {
        String texts = texts(x);
        int acts = x.house(0);
        int notDone = x.house(1);
        long digest = x.digest();
        Check.is(what, act.on(x), -9);
        Check.is("the cells after " + what, texts(x), texts);
        Check.is("the acts with " + what, x.house(0), acts);
        Check.is("those not done with " + what, x.house(1), notDone + 1);
        // house(1) goes into the digest four numbers ahead of the end.
        Check.is("the digest after " + what, x.digest(), digest + 31 * 31 * 31 * 31);
    }
}
