import java.util.List;

/** Calls that throw: each must throw what is due, and leave the object as one that was not called so. */
final class Refused {
    interface Start {
        RoamBooks make();
    }

    interface Call {
        void on(RoamBooks x);
    }

    interface CallWith {
        void on(RoamBooks x, int argument);
    }

    private static final int[] FAR_OFF = {Integer.MIN_VALUE, Integer.MAX_VALUE};

    private Refused() {
    }

    static void noSuch(Call call) {
        noSuch(Scene::busy, call);
    }

    static void noSuch(Start start, Call call) {
        check(IndexOutOfBoundsException.class, start, call);
    }

    static void noSuchFarOff(CallWith call) {
        for (int argument : FAR_OFF) {
            noSuch(x -> call.on(x, argument));
        }
    }

    static void outOfRange(Call call) {
        outOfRange(Scene::busy, call);
    }

    static void outOfRange(Start start, Call call) {
        check(IllegalArgumentException.class, start, call);
    }

    static void outOfRangeFarOff(CallWith call) {
        for (int argument : FAR_OFF) {
            outOfRange(x -> call.on(x, argument));
        }
    }

    static void notNow(Start start, Call call) {
        check(IllegalStateException.class, start, call);
    }

    private static void check(Class<? extends RuntimeException> due, Start start, Call call) {
        RoamBooks x = start.make();
        Expect.due("the call", due.getName(), Expect.thrownBy(() -> call.on(x)));
        List<String> want = Everything.of(start.make());
        List<String> got = Everything.of(x);
        Expect.due("calls answered afterwards", want.size(), got.size());
        for (int i = 0; i < Math.min(want.size(), got.size()); i++) {
            Expect.due("afterwards", want.get(i), got.get(i));
        }
    }
}
