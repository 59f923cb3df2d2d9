/** Promise 17: subscriberIs. */
public final class Promise17SubscriberIsTest {
    private Promise17SubscriberIsTest() {
    }

    public static void main(String[] args) {
        Cases.run(Promise17SubscriberIsTest.class);
    }

    private static RoamBooks paidAbroad(int minutes, int price) {
        RoamBooks x = Scene.talkers();
        x.prices(0, 10, price, 20);
        Scene.talk(x, minutes);
        return x;
    }

    static void atFirstItIsWhatNobodyTold() {
        RoamBooks x = new RoamBooks();
        x.subscriber(2, 6, 9);
        int[] due = {RoamBooks.NONE, 6, 0, 0, 0, 0, 5000};
        for (int what = 0; what < due.length; what++) {
            Expect.due("what " + what, due[what], x.subscriberIs(0, what));
        }
    }

    static void whatZeroIsTheNetworkToWhichItIsAttached() {
        RoamBooks x = Scene.guestAndHost();
        Expect.due("attached", 1, x.subscriberIs(0, 0));
        x.off(0);
        Expect.due("off", RoamBooks.NONE, x.subscriberIs(0, 0));
    }

    static void whatOneIsItsPlace() {
        RoamBooks x = Scene.guestAndHost();
        Expect.due("place", 0, x.subscriberIs(0, 1));
        x.move(0, 7);
        Expect.due("moved", 7, x.subscriberIs(0, 1));
    }

    static void whatTwoIsHowManyTriesWereSteered() {
        RoamBooks x = Scene.steered();
        for (int steered = 0; steered < 3; steered++) {
            Expect.due("steered", steered, x.subscriberIs(0, 2));
            x.attach(0, 2);
        }
        Expect.due("attached", 0, x.subscriberIs(0, 2));
    }

    static void whatThreeIsAllThatItPaid() {
        RoamBooks x = Scene.guestAndHost();
        x.call(0, 1, 60);
        x.call(1, 0, 60);
        x.attach(0, 0);
        x.call(0, 1, 60);
        x.pass(Scene.MONTH);
        Expect.due("abroad, called, at home", 50 + 20 + 10, x.subscriberIs(0, 3));
        Expect.due("at home", 10, x.subscriberIs(1, 3));
    }

    static void whatFourIsWithoutWhatItPaidAtHome() {
        RoamBooks x = Scene.guestAndHost();
        x.call(0, 1, 60);
        x.call(1, 0, 60);
        x.attach(0, 0);
        x.call(0, 1, 60);
        Expect.due("abroad, called", 50 + 20, x.subscriberIs(0, 4));
        Expect.due("at home", 0, x.subscriberIs(1, 4));
    }

    static void whatFourIsKeptInTheLastMinuteOfAMonth() {
        RoamBooks x = Scene.guestAndHost();
        x.call(0, 1, 60);
        Scene.passTo(x, 0, Scene.MONTH - 1);
        Expect.due("in minute 43199", 50, x.subscriberIs(0, 4));
    }

    static void whatFourBeginsAnewWithAMonth() {
        RoamBooks x = Scene.guestAndHost();
        Scene.passTo(x, 0, Scene.MONTH - 1);
        x.call(0, 1, 60);
        x.pass(1);
        Expect.due("in minute 43200", 0, x.subscriberIs(0, 4));
        Expect.due("all that it paid", 50, x.subscriberIs(0, 3));
    }

    static void whatFourBeginsAnewWithTheSecondMonth() {
        RoamBooks x = Scene.guestAndHost();
        Scene.passTo(x, 0, Scene.MONTH);
        x.call(0, 1, 60);
        Scene.passTo(x, Scene.MONTH, 2 * Scene.MONTH - 1);
        Expect.due("in minute 86399", 50, x.subscriberIs(0, 4));
        x.pass(1);
        Expect.due("in minute 86400", 0, x.subscriberIs(0, 4));
    }

    static void whatFourIsKeptToTheLastMinute() {
        RoamBooks x = Scene.guestAndHost();
        Scene.passTo(x, 0, 23 * Scene.MONTH);
        x.call(0, 1, 60);
        Scene.passTo(x, 23 * Scene.MONTH, Scene.LAST_MINUTE);
        Expect.due("in the last month", 50, x.subscriberIs(0, 4));
    }

    static void whatFourBeginsAnewForEachSubscriber() {
        RoamBooks x = Scene.guestAndHost();
        x.agree(1, 0, 0, Scene.FOREVER, 0, 0, 0);
        x.attach(1, 0);
        x.call(0, 1, 60);
        Expect.due("the other one", 20, x.subscriberIs(1, 4));
        x.pass(Scene.MONTH);
        Expect.due("the caller", 0, x.subscriberIs(0, 4));
        Expect.due("the other one", 0, x.subscriberIs(1, 4));
    }

    static void whatFiveIsNotBelow80Hundredths() {
        RoamBooks x = paidAbroad(79, 1);
        x.cap(0, 100, true);
        Expect.due("79 of 80", 0, x.subscriberIs(0, 5));
    }

    static void whatFiveIsFrom80HundredthsOn() {
        RoamBooks x = paidAbroad(80, 1);
        x.cap(0, 100, true);
        Expect.due("80 of 80", 1, x.subscriberIs(0, 5));
        Scene.talk(x, 1);
        Expect.due("81 of 80", 1, x.subscriberIs(0, 5));
    }

    static void whatFiveIsNotRoundedDown() {
        RoamBooks x = paidAbroad(80, 1);
        x.cap(0, 101, true);
        Expect.due("80 of 80.8", 0, x.subscriberIs(0, 5));
        x.cap(0, 102, true);
        Expect.due("80 of 81.6", 0, x.subscriberIs(0, 5));
    }

    static void whatFiveIsNotRoundedUp() {
        RoamBooks x = paidAbroad(81, 1);
        x.cap(0, 101, true);
        Expect.due("81 of 80.8", 1, x.subscriberIs(0, 5));
        x.cap(0, 102, true);
        Expect.due("81 of 81.6", 0, x.subscriberIs(0, 5));
    }

    static void whatFiveIsAtTheFirstCapFrom4000On() {
        RoamBooks x = Scene.guestAndHost();
        x.prices(0, 10, 1, 20);
        for (int i = 0; i < 6; i++) {
            Scene.talk(x, 600);
        }
        Scene.talk(x, 399);
        Expect.due("3999", 0, x.subscriberIs(0, 5));
        Scene.talk(x, 1);
        Expect.due("4000", 1, x.subscriberIs(0, 5));
    }

    static void whatFiveOfTheGreatestCapIsFrom80000On() {
        RoamBooks x = Scene.talkers();
        x.cap(0, 99999, true);
        x.prices(0, 10, 99, 20);
        Scene.talk(x, 600);
        Scene.talk(x, 208);
        x.prices(0, 10, 1, 20);
        Scene.talk(x, 7);
        Expect.due("paid", 79999, x.subscriberIs(0, 4));
        Expect.due("79999 of 79999.2", 0, x.subscriberIs(0, 5));
        Scene.talk(x, 1);
        Expect.due("80000 of 79999.2", 1, x.subscriberIs(0, 5));
    }

    static void whatFiveOfCapZeroIsAtOnce() {
        RoamBooks x = Scene.one();
        x.cap(0, 0, false);
        Expect.due("0 of 0", 1, x.subscriberIs(0, 5));
    }

    static void whatFiveOfCapOneIsNotAtOnce() {
        RoamBooks x = Scene.one();
        x.cap(0, 1, false);
        Expect.due("0 of 0.8", 0, x.subscriberIs(0, 5));
    }

    static void whatFiveEndsWithTheMonth() {
        RoamBooks x = paidAbroad(80, 1);
        x.cap(0, 100, true);
        x.pass(Scene.MONTH - 1);
        Expect.due("in its last minute", 1, x.subscriberIs(0, 5));
        x.pass(1);
        Expect.due("in the next month", 0, x.subscriberIs(0, 5));
    }

    static void whatFiveDoesNotCountWhatIsPaidAtHome() {
        RoamBooks x = Scene.guestAndHost();
        x.cap(1, 10, false);
        x.call(1, 0, 600);
        Expect.due("paid", 100, x.subscriberIs(1, 3));
        Expect.due("warned", 0, x.subscriberIs(1, 5));
    }

    static void whatSixIsItsCap() {
        RoamBooks x = Scene.one();
        x.cap(0, 0, false);
        Expect.due("the least", 0, x.subscriberIs(0, 6));
        x.cap(0, 99999, true);
        Expect.due("the greatest", 99999, x.subscriberIs(0, 6));
    }

    static void whatMinusOneIsOutOfRange() {
        Refused.outOfRange(x -> x.subscriberIs(0, -1));
    }

    static void whatSevenIsOutOfRange() {
        Refused.outOfRange(x -> x.subscriberIs(0, 7));
    }

    static void whatFarOffIsOutOfRange() {
        Refused.outOfRangeFarOff((x, far) -> x.subscriberIs(0, far));
    }

    static void theSubscriberIsLookedAtBeforeWhat() {
        Refused.noSuch(x -> x.subscriberIs(4, 7));
        Refused.noSuch(x -> x.subscriberIs(-1, -1));
    }

    static void subscriberNineIsTheGreatest() {
        RoamBooks x = Scene.ten();
        x.move(9, 5);
        Expect.due("its place", 5, x.subscriberIs(9, 1));
    }

    static void subscriberTenIsNone() {
        Refused.noSuch(Scene::ten, x -> x.subscriberIs(10, 0));
    }

    static void subscriberMinusOneIsNone() {
        Refused.noSuch(x -> x.subscriberIs(-1, 0));
    }

    static void subscriberNotToldYetIsNone() {
        Refused.noSuch(RoamBooks::new, x -> x.subscriberIs(0, 0));
        Refused.noSuch(x -> x.subscriberIs(4, 0));
    }

    static void subscribersFarOffAreNone() {
        Refused.noSuchFarOff((x, far) -> x.subscriberIs(far, 0));
    }
}
