/** Promise 8: crash. */
public final class Promise08CrashTest {
    private Promise08CrashTest() {
    }

    public static void main(String[] args) {
        Cases.run(Promise08CrashTest.class);
    }

    static void anEmptyBookHasNone() {
        RoamBooks x = new RoamBooks();
        Expect.due("crash", 0, x.crash(0));
    }

    static void aFullBookHasTen() {
        RoamBooks x = Scene.ten();
        for (int s = 0; s < 10; s++) {
            x.attach(s, 0);
        }
        Expect.due("crash", 10, x.crash(0));
        for (int s = 0; s < 10; s++) {
            Expect.due("contact of " + s, RoamBooks.NONE, x.contact(0, s));
        }
    }

    static void aSecondCrashFindsNone() {
        RoamBooks x = Scene.guestAndHost();
        Expect.due("crash", 2, x.crash(1));
        Expect.due("crash again", 0, x.crash(1));
    }

    static void whoIsOffCountsWhileInTheBook() {
        RoamBooks x = Scene.guestAndHost();
        x.off(0);
        Expect.due("crash", 2, x.crash(1));
    }

    static void networkZeroIsTheLeast() {
        RoamBooks x = Scene.one();
        x.attach(0, 0);
        Expect.due("crash", 1, x.crash(0));
    }

    static void networkFiveIsTheGreatest() {
        RoamBooks x = Scene.receiving(32);
        x.attach(x.subscriber(5, 0, 0), 5);
        Expect.due("crash", 1, x.crash(5));
    }

    static void networkMinusOneIsNone() {
        Refused.noSuch(x -> x.crash(-1));
    }

    static void networkSixIsNone() {
        Refused.noSuch(x -> x.crash(6));
    }

    static void networksFarOffAreNone() {
        Refused.noSuchFarOff((x, far) -> x.crash(far));
    }

    static void whoIsAttachedStaysSoAndTheNoteToo() {
        RoamBooks x = Scene.guestAndHost();
        x.crash(1);
        Expect.due("attached", 1, x.subscriberIs(0, 0));
        Expect.due("where", 1, x.where(0));
    }

    static void otherBooksStay() {
        RoamBooks x = Scene.guestAndHost();
        x.crash(0);
        x.crash(2);
        Expect.due("contact", 0, x.contact(1, 0));
    }

    static void aNewHourFillsTheBookAgain() {
        RoamBooks x = Scene.guestAndHost();
        x.crash(1);
        x.pass(59);
        Expect.due("before the hour", RoamBooks.NONE, x.contact(1, 0));
        x.pass(1);
        Expect.due("with the hour", 60, x.contact(1, 0));
        Expect.due("crash", 2, x.crash(1));
    }
}
