/** Compares answers with those that are due, prints each that is not, and ends the program by them. */
final class Expect {
    interface Told {
        void tell();
    }

    private static String running = "";
    private static int compared = 0;
    private static int wrong = 0;

    private Expect() {
    }

    /** What is compared from now on belongs to the case of this name. */
    static void begin(String name) {
        running = name + ": ";
    }

    static void due(String call, long want, long got) {
        compared++;
        if (want != got) {
            fail(call + " answered " + got + ", due is " + want);
        }
    }

    static void due(String call, boolean want, boolean got) {
        due(call, want ? 1 : 0, got ? 1 : 0);
    }

    static void due(String call, String want, String got) {
        compared++;
        if (!want.equals(got)) {
            fail(call + " answered " + got + ", due is " + want);
        }
    }

    static void fail(String what) {
        wrong++;
        System.out.println(running + what);
    }

    static int comparedYet() {
        return compared;
    }

    static void noSuch(String call, Told told) {
        due(call, IndexOutOfBoundsException.class.getName(), thrownBy(told));
    }

    static void outOfRange(String call, Told told) {
        due(call, IllegalArgumentException.class.getName(), thrownBy(told));
    }

    static void notNow(String call, Told told) {
        due(call, IllegalStateException.class.getName(), thrownBy(told));
    }

    // By its exact class and its place, since the machine's are classes below these, and the library
    // throws some of the same classes from places of its own.
    static String thrownBy(Told told) {
        try {
            told.tell();
        } catch (RuntimeException e) {
            String place = e.getStackTrace().length == 0 ? "nowhere" : e.getStackTrace()[0].getClassName();
            return e.getClass().getName() + (place.startsWith("RoamBooks") ? "" : " from " + place);
        }
        return "nothing thrown";
    }

    static void end() {
        if (compared == 0) {
            System.out.println("nothing was compared");
            System.exit(1);
        }
        if (wrong > 0) {
            System.out.println(wrong + " of " + compared + " answers are not as due");
            System.exit(1);
        }
    }
}
