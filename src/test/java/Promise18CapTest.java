/** Promise 18: cap, and how it cuts. */
public final class Promise18CapTest {
    private Promise18CapTest() {
    }

    public static void main(String[] args) {
        Cases.run(Promise18CapTest.class);
    }

    // The guest pays 1 cent a minute abroad, and 1 for being called there.
    private static RoamBooks cheap(int cap, boolean consents) {
        RoamBooks x = Scene.guestAndHost();
        x.prices(0, 1, 1, 1);
        x.cap(0, cap, consents);
        return x;
    }

    static void zeroIsTheLeastAndCutsTheFirstCent() {
        RoamBooks x = cheap(0, false);
        Expect.due("the cap", 0, x.subscriberIs(0, 6));
        Expect.due("call", 5, x.call(0, 1, 60));
        Expect.due("being called", 6, x.call(1, 0, 60));
    }

    static void zeroDoesNotCutWhatCostsNothing() {
        RoamBooks x = cheap(0, false);
        x.prices(0, 0, 0, 0);
        Expect.due("call", 0, x.call(0, 1, 36000));
        Expect.due("being called", 0, x.call(1, 0, 36000));
    }

    static void the99999IsTheGreatest() {
        RoamBooks x = cheap(99999, false);
        x.prices(0, 1, 99, 1);
        x.call(0, 1, 36000);
        x.call(0, 1, 410 * 60);
        x.prices(0, 1, 1, 1);
        Expect.due("paid", 99990, x.subscriberIs(0, 4));
        Expect.due("to the cap", 0, x.call(0, 1, 540));
        Expect.due("above the cap", 5, x.call(0, 1, 1));
    }

    static void minusOneIsOutOfRange() {
        Refused.outOfRange(x -> x.cap(0, -1, false));
        Refused.outOfRange(x -> x.cap(2, -1, true));
    }

    static void the100000IsOutOfRange() {
        Refused.outOfRange(x -> x.cap(0, 100000, false));
        Refused.outOfRange(x -> x.cap(2, 100000, true));
    }

    static void capsFarOffAreOutOfRange() {
        Refused.outOfRangeFarOff((x, far) -> x.cap(0, far, false));
    }

    static void theSubscriberIsLookedAtBeforeTheCap() {
        Refused.noSuch(x -> x.cap(4, 100000, true));
        Refused.noSuch(x -> x.cap(-1, -1, true));
    }

    static void subscriberNineIsTheGreatest() {
        RoamBooks x = Scene.ten();
        x.cap(9, 7, false);
        Expect.due("its cap", 7, x.subscriberIs(9, 6));
        Expect.due("another one's cap", 5000, x.subscriberIs(8, 6));
    }

    static void subscriberTenIsNone() {
        Refused.noSuch(Scene::ten, x -> x.cap(10, 1, true));
    }

    static void subscriberMinusOneIsNone() {
        Refused.noSuch(x -> x.cap(-1, 1, false));
    }

    static void subscriberNotToldYetIsNone() {
        Refused.noSuch(RoamBooks::new, x -> x.cap(0, 1, true));
        Refused.noSuch(x -> x.cap(4, 1, true));
    }

    static void subscribersFarOffAreNone() {
        Refused.noSuchFarOff((x, far) -> x.cap(far, 1, true));
    }

    static void atFirstItIs5000() {
        RoamBooks x = Scene.guestAndHost();
        Expect.due("to 5000", 0, x.call(0, 1, 6000));
        Expect.due("above 5000", 5, x.call(0, 1, 1));
    }

    static void atTheCapACallDoesNotFail() {
        RoamBooks x = cheap(7, false);
        Expect.due("call", 0, x.call(0, 1, 420));
        Expect.due("paid", 7, x.subscriberIs(0, 4));
    }

    static void oneCentAboveTheCapACallFails() {
        RoamBooks x = cheap(7, false);
        Expect.due("call", 5, x.call(0, 1, 421));
        Expect.due("paid", 0, x.subscriberIs(0, 4));
    }

    static void atTheCapBeingCalledDoesNotFail() {
        RoamBooks x = cheap(7, false);
        Expect.due("call", 0, x.call(1, 0, 420));
        Expect.due("paid", 7, x.subscriberIs(0, 4));
    }

    static void oneCentAboveTheCapBeingCalledFails() {
        RoamBooks x = cheap(7, false);
        Expect.due("call", 6, x.call(1, 0, 421));
        Expect.due("paid", 0, x.subscriberIs(0, 4));
    }

    static void callingAndBeingCalledCountTogether() {
        RoamBooks x = cheap(7, false);
        x.call(0, 1, 240);
        x.call(1, 0, 120);
        Expect.due("one more", 0, x.call(0, 1, 60));
        Expect.due("none more", 5, x.call(0, 1, 60));
        Expect.due("none more by being called", 6, x.call(1, 0, 60));
    }

    static void whoConsentsIsNotCut() {
        RoamBooks x = cheap(0, true);
        Expect.due("call", 0, x.call(0, 1, 60));
        Expect.due("being called", 0, x.call(1, 0, 60));
        Expect.due("paid", 2, x.subscriberIs(0, 4));
    }

    static void consentEndsWithTheNextCap() {
        RoamBooks x = cheap(0, true);
        x.cap(0, 0, false);
        Expect.due("call", 5, x.call(0, 1, 60));
    }

    static void consentOfOneIsNotThatOfTheOther() {
        RoamBooks x = cheap(0, false);
        x.cap(1, 0, true);
        Expect.due("call", 5, x.call(0, 1, 60));
    }

    static void whatIsPaidAtHomeDoesNotCount() {
        RoamBooks x = cheap(7, false);
        x.cap(1, 0, false);
        Expect.due("the host calls", 0, x.call(1, 0, 420));
        x.attach(0, 0);
        x.call(0, 1, 36000);
        x.attach(0, 1);
        Expect.due("it was at the cap already", 5, x.call(0, 1, 1));
        Expect.due("paid abroad", 7, x.subscriberIs(0, 4));
    }

    static void atHomeNobodyIsCut() {
        RoamBooks x = cheap(7, false);
        x.call(0, 1, 420);
        x.cap(0, 3, false);
        x.attach(0, 0);
        Expect.due("call at home", 0, x.call(0, 1, 60));
        Expect.due("called at home", 0, x.call(1, 0, 60));
    }

    static void aboveTheCapAlreadyACallAbroadFailsThoughItCostsNothing() {
        RoamBooks x = cheap(7, false);
        x.call(0, 1, 420);
        x.prices(0, 0, 0, 0);
        Expect.due("at the cap", 0, x.call(0, 1, 60));
        x.cap(0, 6, false);
        Expect.due("above the cap", 5, x.call(0, 1, 60));
        Expect.due("above the cap, being called", 6, x.call(1, 0, 60));
    }

    static void withANewMonthItCutsAnew() {
        RoamBooks x = cheap(7, false);
        x.call(0, 1, 420);
        x.pass(Scene.MONTH - 1);
        Expect.due("in the last minute of the month", 5, x.call(0, 1, 1));
        x.pass(1);
        Expect.due("in the new month", 0, x.call(0, 1, 420));
        Expect.due("and no more", 5, x.call(0, 1, 1));
    }

    static void raisedItLetsGoOn() {
        RoamBooks x = cheap(7, false);
        x.call(0, 1, 420);
        x.cap(0, 8, false);
        Expect.due("one more", 0, x.call(0, 1, 60));
        Expect.due("none more", 5, x.call(0, 1, 60));
    }
}
