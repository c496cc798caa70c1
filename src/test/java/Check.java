/** Counts and prints what is not as due; a test class ends with done(). */
final class Check {
    interface Call {
        Object answer();
    }

    private static int wrong = 0;
    private static int asked = 0;
    private static String place = "";

    private Check() {
    }

    static void promise(int number) {
        place = "promise " + number;
    }

    static void place(String name) {
        place = name;
    }

    static void is(String what, Object got, Object due) {
        asked++;
        if (!due.equals(got)) {
            wrong++;
            if (wrong <= 50) {
                System.out.println(place + ": " + what + " answered " + got + ", due is " + due);
            }
        }
    }

    static void index(String what, Call call) {
        is(what, thrown(call), "IndexOutOfBoundsException");
    }

    static void argument(String what, Call call) {
        is(what, thrown(call), "IllegalArgumentException");
    }

    static void state(String what, Call call) {
        is(what, thrown(call), "IllegalStateException");
    }

    /** The name of exactly the class that is thrown, or "nothing". */
    private static String thrown(Call call) {
        try {
            call.answer();
            return "nothing";
        } catch (RuntimeException e) {
            return e.getClass().getSimpleName();
        }
    }

    static void done(String name) {
        System.out.println(name + ": " + asked + " answers asked, " + wrong + " not as due");
        if (wrong != 0) {
            System.exit(1);
        }
    }
}
