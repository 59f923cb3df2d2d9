/** Compares answers with those that are due, prints each that is not, and ends the program by them. */
final class Expect {
    interface Asked {
        long answer();
    }

    interface Told {
        void tell();
    }

    private static int compared = 0;
    private static int wrong = 0;

    private Expect() {
    }

    static void due(String call, long want, long got) {
        compared++;
        if (want != got) {
            wrong++;
            System.out.println(call + " answered " + got + ", due is " + want);
        }
    }

    static void due(String call, boolean want, boolean got) {
        due(call, want ? 1 : 0, got ? 1 : 0);
    }

    static void due(String call, String want, String got) {
        compared++;
        if (!want.equals(got)) {
            wrong++;
            System.out.println(call + " answered " + got + ", due is " + want);
        }
    }

    static void noSuch(String call, Told told) {
        due(call, IndexOutOfBoundsException.class.getName(), thrownBy(told));
    }

    static void outOfRange(String call, Told told) {
        due(call, IllegalArgumentException.class.getName(), thrownBy(told));
    }

    static void notNow(String call, Told told) {
        due(call, IllegalStateException.class.getName(), thrownBy(told));
    }

    // By its exact class and its place, since the machine's are classes below these, and the library
    // throws some of the same classes from places of its own.
    private static String thrownBy(Told told) {
        try {
            told.tell();
        } catch (RuntimeException e) {
            String place = e.getStackTrace().length == 0 ? "nowhere" : e.getStackTrace()[0].getClassName();
            return e.getClass().getName() + (place.startsWith("RoamBooks") ? "" : " from " + place);
        }
        return "nothing thrown";
    }

    static void end() {
        if (compared == 0) {
            System.out.println("nothing was compared");
            System.exit(1);
        }
        if (wrong > 0) {
            System.out.println(wrong + " of " + compared + " answers are not as due");
            System.exit(1);
        }
    }
}
