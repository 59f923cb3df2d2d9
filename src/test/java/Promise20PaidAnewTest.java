/** Promise 20: paidAnew. */
public final class Promise20PaidAnewTest {
    private Promise20PaidAnewTest() {
    }

    public static void main(String[] args) {
        Cases.run(Promise20PaidAnewTest.class);
    }

    static void beforeAnyCallItIsNothing() {
        RoamBooks x = Scene.one();
        Expect.due("paidAnew", 0, x.paidAnew(0));
    }

    static void itIsWhatWasPaidByEachCall() {
        RoamBooks x = Scene.guestAndHost();
        x.call(0, 1, 61);
        Expect.due("calling abroad", 100, x.paidAnew(0));
        x.call(1, 0, 61);
        Expect.due("and being called", 140, x.paidAnew(0));
        x.attach(0, 0);
        x.call(0, 1, 61);
        Expect.due("and at home", 160, x.paidAnew(0));
        Expect.due("the host", 20, x.paidAnew(1));
    }

    static void newPricesDoNotReachBack() {
        RoamBooks x = Scene.guestAndHost();
        x.call(0, 1, 60);
        x.prices(0, 99, 99, 99);
        Expect.due("paidAnew", 50, x.paidAnew(0));
    }

    static void whereItIsNowDoesNotReachBack() {
        RoamBooks x = Scene.guestAndHost();
        x.call(0, 1, 60);
        x.attach(0, 0);
        Expect.due("at home", 50, x.paidAnew(0));
        x.off(0);
        Expect.due("off", 50, x.paidAnew(0));
    }

    static void aNewMonthDoesNotEndIt() {
        RoamBooks x = Scene.guestAndHost();
        x.call(0, 1, 60);
        x.pass(Scene.MONTH);
        x.call(0, 1, 60);
        Expect.due("paidAnew", 100, x.paidAnew(0));
    }

    static void callsThatFailAreNotPaid() {
        RoamBooks x = Scene.guestAndHost();
        x.call(0, 1, 36000);
        Expect.due("paidAnew", 0, x.paidAnew(0));
    }

    static void ofTheMostThatCanBePaidItIsAll() {
        RoamBooks x = Scene.talkers();
        x.prices(0, 99, 99, 99);
        for (int i = 0; i < 200; i++) {
            Scene.talk(x, 600);
        }
        Expect.due("paidAnew", 200 * 600 * 99, x.paidAnew(0));
        Expect.due("as it is kept", 200 * 600 * 99, x.subscriberIs(0, 3));
        Expect.due("abroad in this month", 200 * 600 * 99, x.subscriberIs(0, 4));
        Expect.due("warned", 1, x.subscriberIs(0, 5));
    }

    static void othersCallsAreNotPaid() {
        RoamBooks x = Scene.guestAndHost();
        x.subscriber(0, 0, 0);
        x.call(0, 1, 60);
        Expect.due("paidAnew", 0, x.paidAnew(2));
    }

    static void subscriberNineIsTheGreatest() {
        RoamBooks x = Scene.ten();
        x.attach(9, 0);
        x.attach(0, 0);
        x.call(9, 0, 60);
        Expect.due("paidAnew", 10, x.paidAnew(9));
        Expect.due("of another one", 0, x.paidAnew(0));
    }

    static void subscriberTenIsNone() {
        Refused.noSuch(Scene::ten, x -> x.paidAnew(10));
    }

    static void subscriberMinusOneIsNone() {
        Refused.noSuch(x -> x.paidAnew(-1));
    }

    static void subscriberNotToldYetIsNone() {
        Refused.noSuch(RoamBooks::new, x -> x.paidAnew(0));
        Refused.noSuch(x -> x.paidAnew(4));
    }

    static void subscribersFarOffAreNone() {
        Refused.noSuchFarOff((x, far) -> x.paidAnew(far));
    }
}
