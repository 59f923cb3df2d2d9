/** Promise 11: off. */
public final class Promise11OffTest {
    private Promise11OffTest() {
    }

    public static void main(String[] args) {
        Cases.run(Promise11OffTest.class);
    }

    static void returnsTheNetworkToWhichItWasAttached() {
        RoamBooks x = Scene.guestAndHost();
        Expect.due("off", 1, x.off(0));
        Expect.due("attached", RoamBooks.NONE, x.subscriberIs(0, 0));
    }

    static void whoIsAttachedToNoneStaysSo() {
        RoamBooks x = Scene.one();
        Expect.due("never attached", RoamBooks.NONE, x.off(0));
        x.attach(0, 0);
        x.off(0);
        Expect.due("off already", RoamBooks.NONE, x.off(0));
    }

    static void theBooksKnowNothingOfIt() {
        RoamBooks x = Scene.guestAndHost();
        x.off(0);
        Expect.due("contact", 0, x.contact(1, 0));
        Expect.due("where", 1, x.where(0));
        Expect.due("agrees", false, x.agrees(0));
    }

    static void aNewHourBringsNoContactOfIt() {
        RoamBooks x = Scene.guestAndHost();
        x.off(0);
        x.pass(60);
        Expect.due("contact", 0, x.contact(1, 0));
    }

    static void othersStayAttached() {
        RoamBooks x = Scene.guestAndHost();
        x.off(0);
        Expect.due("attached", 1, x.subscriberIs(1, 0));
    }

    static void steeredTriesStay() {
        RoamBooks x = Scene.steered();
        x.attach(0, 2);
        x.attach(0, 0);
        x.off(0);
        Expect.due("steered", 2, x.subscriberIs(0, 2));
        Expect.due("attach", 0, x.attach(0, 2));
    }

    static void itMayAttachAgain() {
        RoamBooks x = Scene.one();
        x.attach(0, 0);
        x.off(0);
        Expect.due("attach", 0, x.attach(0, 0));
    }

    static void subscriberZeroIsTheLeastAndNineTheGreatest() {
        RoamBooks x = Scene.ten();
        x.attach(0, 0);
        x.attach(9, 0);
        Expect.due("off 0", 0, x.off(0));
        Expect.due("off 9", 0, x.off(9));
    }

    static void subscriberTenIsNone() {
        Refused.noSuch(Scene::ten, x -> x.off(10));
    }

    static void subscriberMinusOneIsNone() {
        Refused.noSuch(x -> x.off(-1));
    }

    static void subscriberNotToldYetIsNone() {
        Refused.noSuch(RoamBooks::new, x -> x.off(0));
        Refused.noSuch(x -> x.off(4));
    }

    static void subscribersFarOffAreNone() {
        Refused.noSuchFarOff((x, far) -> x.off(far));
    }
}
