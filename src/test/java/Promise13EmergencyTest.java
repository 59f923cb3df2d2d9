/** Promise 13: emergency. */
public final class Promise13EmergencyTest {
    private Promise13EmergencyTest() {
    }

    public static void main(String[] args) {
        Cases.run(Promise13EmergencyTest.class);
    }

    static void whereNoneIsReceivedThereIsNone() {
        RoamBooks x = Scene.receiving(0);
        x.subscriber(0, 0, 0);
        Expect.due("emergency", RoamBooks.NONE, x.emergency(0));
    }

    static void whereAllAreDeadThereIsNone() {
        RoamBooks x = Scene.one();
        x.dead(0, true);
        x.dead(1, true);
        Expect.due("one alive", 2, x.emergency(0));
        x.dead(2, true);
        Expect.due("none alive", RoamBooks.NONE, x.emergency(0));
    }

    static void itGoesOverTheLowestThatIsReceived() {
        for (int network = 0; network < 6; network++) {
            RoamBooks x = Scene.receiving(64 - (1 << network));
            x.subscriber(0, 0, 0);
            Expect.due("emergency", network, x.emergency(0));
        }
    }

    static void itGoesOverNoDeadOne() {
        RoamBooks x = Scene.one();
        x.dead(0, true);
        Expect.due("the next one", 1, x.emergency(0));
    }

    static void networkFiveIsTheGreatest() {
        RoamBooks x = Scene.receiving(32);
        x.subscriber(0, 0, 0);
        Expect.due("emergency", 5, x.emergency(0));
    }

    static void itGoesOverThatToWhichItIsAttached() {
        RoamBooks x = Scene.oneWhoMayRoam();
        x.attach(0, 2);
        Expect.due("emergency", 2, x.emergency(0));
        x.off(0);
        Expect.due("off", 0, x.emergency(0));
    }

    static void cardsAndAgreementsDoNotMatter() {
        RoamBooks x = Scene.receiving(2);
        x.subscriber(0, 0, 63);
        Expect.due("emergency", 1, x.emergency(0));
    }

    static void itAsksForThePlaceOfTheSubscriber() {
        RoamBooks x = Scene.receiving(1);
        x.reach(1, 8);
        x.subscriber(0, 1, 0);
        Expect.due("emergency", 3, x.emergency(0));
        x.move(0, 0);
        Expect.due("moved", 0, x.emergency(0));
        x.move(0, 2);
        Expect.due("moved to where none is", RoamBooks.NONE, x.emergency(0));
    }

    static void itAttachesNobody() {
        RoamBooks x = Scene.one();
        x.emergency(0);
        Expect.due("attached", RoamBooks.NONE, x.subscriberIs(0, 0));
        Expect.due("contact", RoamBooks.NONE, x.contact(0, 0));
    }

    static void subscriberNineIsTheGreatest() {
        RoamBooks x = Scene.ten();
        Expect.due("emergency", 0, x.emergency(9));
    }

    static void subscriberTenIsNone() {
        Refused.noSuch(Scene::ten, x -> x.emergency(10));
    }

    static void subscriberMinusOneIsNone() {
        Refused.noSuch(x -> x.emergency(-1));
    }

    static void subscriberNotToldYetIsNone() {
        Refused.noSuch(RoamBooks::new, x -> x.emergency(0));
        Refused.noSuch(x -> x.emergency(4));
    }

    static void subscribersFarOffAreNone() {
        Refused.noSuchFarOff((x, far) -> x.emergency(far));
    }
}
