/** Promise 4: agree, and when an agreement holds. */
public final class Promise04AgreeTest {
    private Promise04AgreeTest() {
    }

    public static void main(String[] args) {
        Cases.run(Promise04AgreeTest.class);
    }

    private static RoamBooks full() {
        RoamBooks x = Scene.busy();
        for (int i = 3; i < 30; i++) {
            x.agree(2, 1, 0, 1, 0, 0, 0);
        }
        return x;
    }

    // Whether an agreement of 0 and 1 holds, on an object without subscribers until then.
    private static int tryAt(int from, int to, int minute) {
        RoamBooks x = Scene.one();
        x.agree(0, 1, from, to, 5, 0, 5);
        Scene.passTo(x, 0, minute);
        return x.attach(0, 1);
    }

    static void returnsHowManyThereAre() {
        RoamBooks x = new RoamBooks();
        Expect.due("the first", 1, x.agree(0, 1, 0, 1, 0, 0, 0));
        Expect.due("the same once more", 2, x.agree(0, 1, 0, 1, 0, 0, 0));
        Expect.due("another one", 3, x.agree(4, 2, 7, 9, 5, 6, 4));
    }

    static void thirtyAreAsManyAsMayBe() {
        RoamBooks x = new RoamBooks();
        for (int i = 1; i <= 30; i++) {
            Expect.due("agree", i, x.agree(i % 6, (i + 1) % 6, 0, 1, 0, 0, 0));
        }
    }

    static void theThirtiethHolds() {
        RoamBooks x = Scene.one();
        for (int i = 1; i < 30; i++) {
            x.agree(2, 1, 0, 1, 0, 0, 0);
        }
        Expect.due("before it", 4, x.attach(0, 1));
        x.agree(0, 1, 0, 1, 0, 0, 0);
        Expect.due("with it", 0, x.attach(0, 1));
    }

    static void theThirtyFirstIsRefused() {
        Refused.notNow(Promise04AgreeTest::full, x -> x.agree(0, 1, 0, Scene.FOREVER, 1, 0, 0));
    }

    static void networksAreLookedAtBeforeThatThereAreThirty() {
        Refused.noSuch(Promise04AgreeTest::full, x -> x.agree(0, 6, 0, 1, 0, 0, 0));
    }

    static void bothTheSameIsLookedAtBeforeThatThereAreThirty() {
        Refused.outOfRange(Promise04AgreeTest::full, x -> x.agree(1, 1, 0, 1, 0, 0, 0));
    }

    static void rangesAreLookedAtBeforeThatThereAreThirty() {
        Refused.outOfRange(Promise04AgreeTest::full, x -> x.agree(0, 1, 0, 1, 5, 0, 6));
    }

    static void homeZeroIsTheLeastAndVisitedFiveTheGreatest() {
        RoamBooks x = Scene.receiving(32);
        x.subscriber(0, 0, 0);
        x.agree(0, 5, 0, 1, 0, 0, 0);
        Expect.due("attach", 0, x.attach(0, 5));
    }

    static void homeFiveIsTheGreatestAndVisitedZeroTheLeast() {
        RoamBooks x = Scene.receiving(1);
        x.subscriber(5, 0, 0);
        x.agree(5, 0, 0, 1, 0, 0, 0);
        Expect.due("attach", 0, x.attach(0, 0));
    }

    static void homeMinusOneIsNone() {
        Refused.noSuch(x -> x.agree(-1, 1, 0, 1, 0, 0, 0));
    }

    static void homeSixIsNone() {
        Refused.noSuch(x -> x.agree(6, 1, 0, 1, 0, 0, 0));
    }

    static void homesFarOffAreNone() {
        Refused.noSuchFarOff((x, far) -> x.agree(far, 1, 0, 1, 0, 0, 0));
    }

    static void visitedMinusOneIsNone() {
        Refused.noSuch(x -> x.agree(0, -1, 0, 1, 0, 0, 0));
    }

    static void visitedSixIsNone() {
        Refused.noSuch(x -> x.agree(0, 6, 0, 1, 0, 0, 0));
    }

    static void visitedFarOffIsNone() {
        Refused.noSuchFarOff((x, far) -> x.agree(0, far, 0, 1, 0, 0, 0));
    }

    static void networksAreLookedAtBeforeThatBothAreTheSame() {
        Refused.noSuch(x -> x.agree(6, 6, 0, 1, 0, 0, 0));
    }

    static void networksAreLookedAtBeforeTheRanges() {
        Refused.noSuch(x -> x.agree(0, 6, -1, -1, -1, -1, -1));
    }

    static void bothTheSameIsOutOfRange() {
        Refused.outOfRange(x -> x.agree(0, 0, 0, 1, 0, 0, 0));
        Refused.outOfRange(x -> x.agree(5, 5, 0, 1, 0, 0, 0));
    }

    static void fromZeroIsTheLeast() {
        Expect.due("attach", 0, tryAt(0, 5, 0));
    }

    static void fromMinusOneIsOutOfRange() {
        Refused.outOfRange(x -> x.agree(0, 1, -1, 1, 0, 0, 0));
    }

    static void from999999IsTheGreatest() {
        Expect.due("attach", 0, tryAt(999999, 1000000, 999999));
    }

    static void from1000000IsOutOfRange() {
        Refused.outOfRange(x -> x.agree(0, 1, 1000000, 1000001, 0, 0, 0));
    }

    static void fromFarOffIsOutOfRange() {
        Refused.outOfRangeFarOff((x, far) -> x.agree(0, 1, far, 1000000, 0, 0, 0));
        Refused.outOfRangeFarOff((x, far) -> x.agree(0, 1, far, far + 1, 0, 0, 0));
    }

    static void toOneAboveFromIsTheLeast() {
        Expect.due("the minute before", 4, tryAt(7, 8, 6));
        Expect.due("its minute", 0, tryAt(7, 8, 7));
        Expect.due("the minute after", 4, tryAt(7, 8, 8));
    }

    static void toAsFromIsOutOfRange() {
        Refused.outOfRange(x -> x.agree(0, 1, 7, 7, 0, 0, 0));
    }

    static void toBelowFromIsOutOfRange() {
        Refused.outOfRange(x -> x.agree(0, 1, 7, 6, 0, 0, 0));
    }

    static void to1000000IsTheGreatestAndHasTheLastMinute() {
        Expect.due("attach", 0, tryAt(0, 1000000, 999999));
    }

    static void to1000001IsOutOfRange() {
        Refused.outOfRange(x -> x.agree(0, 1, 0, 1000001, 0, 0, 0));
    }

    static void toFarOffIsOutOfRange() {
        Refused.outOfRangeFarOff((x, far) -> x.agree(0, 1, 0, far, 0, 0, 0));
    }

    static void to999999DoesNotHaveTheLastMinute() {
        Expect.due("attach", 4, tryAt(0, 999999, 999999));
        Expect.due("the minute before", 0, tryAt(0, 999999, 999998));
    }

    static void priceZeroIsTheLeast() {
        RoamBooks x = Scene.talkers(0, 0, 0);
        Scene.talkAndDeliver(x, 3);
        Expect.due("owes", 0, x.owes(0, 1));
    }

    static void priceMinusOneIsOutOfRange() {
        Refused.outOfRange(x -> x.agree(0, 1, 0, 1, -1, 0, 0));
        Refused.outOfRange(x -> x.agree(0, 1, 0, 1, -1, 0, -1));
    }

    static void price99IsTheGreatest() {
        RoamBooks x = Scene.talkers(99, 0, 99);
        Scene.talkAndDeliver(x, 3);
        Expect.due("owes", 297, x.owes(0, 1));
    }

    static void price100IsOutOfRange() {
        Refused.outOfRange(x -> x.agree(0, 1, 0, 1, 100, 0, 0));
    }

    static void pricesFarOffAreOutOfRange() {
        Refused.outOfRangeFarOff((x, far) -> x.agree(0, 1, 0, 1, far, 0, 0));
    }

    static void thresholdZeroIsTheLeast() {
        RoamBooks x = new RoamBooks();
        Expect.due("agree", 1, x.agree(0, 1, 0, 1, 1, 0, 0));
    }

    static void thresholdMinusOneIsOutOfRange() {
        Refused.outOfRange(x -> x.agree(0, 1, 0, 1, 0, -1, 0));
    }

    static void threshold9999IsTheGreatest() {
        RoamBooks x = new RoamBooks();
        Expect.due("agree", 1, x.agree(0, 1, 0, 1, 1, 9999, 0));
    }

    static void threshold10000IsOutOfRange() {
        Refused.outOfRange(x -> x.agree(0, 1, 0, 1, 0, 10000, 0));
    }

    static void thresholdsFarOffAreOutOfRange() {
        Refused.outOfRangeFarOff((x, far) -> x.agree(0, 1, 0, 1, 0, far, 0));
    }

    static void lowerZeroIsTheLeast() {
        RoamBooks x = Scene.talkers(9, 3, 0);
        Scene.talkAndDeliver(x, 3);
        Expect.due("owes", 0, x.owes(0, 1));
    }

    static void lowerMinusOneIsOutOfRange() {
        Refused.outOfRange(x -> x.agree(0, 1, 0, 1, 5, 0, -1));
    }

    static void lowerAsThePriceIsTheGreatest() {
        RoamBooks x = Scene.talkers(99, 3, 99);
        Scene.talkAndDeliver(x, 3);
        Expect.due("owes", 297, x.owes(0, 1));
    }

    static void lowerAboveThePriceIsOutOfRange() {
        Refused.outOfRange(x -> x.agree(0, 1, 0, 1, 5, 0, 6));
        Refused.outOfRange(x -> x.agree(0, 1, 0, 1, 0, 0, 1));
    }

    static void lowerFarOffIsOutOfRange() {
        Refused.outOfRangeFarOff((x, far) -> x.agree(0, 1, 0, 1, 99, 0, far));
    }

    static void itHoldsFromItsFirstMinuteOn() {
        Expect.due("the minute before", 4, tryAt(10, 20, 9));
        Expect.due("the first", 0, tryAt(10, 20, 10));
    }

    static void itHoldsUpToItsLastMinuteNotWithTo() {
        Expect.due("the last", 0, tryAt(10, 20, 19));
        Expect.due("the minute after", 4, tryAt(10, 20, 20));
    }

    static void itHoldsThatWayRoundAlone() {
        RoamBooks x = Scene.receiving(3);
        x.subscriber(0, 0, 0);
        x.subscriber(1, 0, 0);
        x.agree(1, 0, 0, Scene.FOREVER, 0, 0, 0);
        Expect.due("the other way round", 4, x.attach(0, 1));
        Expect.due("that way round", 0, x.attach(1, 0));
    }

    static void itHoldsForItsTwoNetworksAlone() {
        RoamBooks x = Scene.one();
        x.agree(0, 1, 0, Scene.FOREVER, 0, 0, 0);
        x.subscriber(2, 0, 0);
        Expect.due("another network", 4, x.attach(0, 2));
        Expect.due("another home", 4, x.attach(1, 1));
    }

    static void ofTwoThatHaveTheMinuteTheOneToldLastHolds() {
        RoamBooks x = Scene.talkers(5, 0, 5);
        x.agree(0, 1, 0, 1, 8, 0, 8);
        x.agree(0, 1, 0, 1, 7, 0, 7);
        Scene.talkAndDeliver(x, 1);
        Expect.due("owes", 7, x.owes(0, 1));
    }

    static void oneToldLastThatDoesNotHaveTheMinuteDoesNotHold() {
        RoamBooks x = Scene.talkers(5, 0, 5);
        x.agree(0, 1, 1, Scene.FOREVER, 8, 0, 8);
        x.agree(1, 0, 0, Scene.FOREVER, 9, 0, 9);
        Scene.talkAndDeliver(x, 1);
        Expect.due("owes", 5, x.owes(0, 1));
    }

    static void whereTheOneToldLastEndsTheOneBeforeHoldsAgain() {
        RoamBooks x = Scene.talkers(5, 0, 5);
        x.agree(0, 1, 3, 6, 8, 0, 8);
        int[] due = {5, 5, 5, 8, 8, 8, 5, 5};
        int sum = 0;
        for (int minute = 0; minute < due.length; minute++) {
            Scene.talkAndDeliver(x, 1);
            sum += due[minute];
            Expect.due("owed for minute " + minute, sum, x.owes(0, 1));
            x.pass(1);
        }
    }

    static void itsEndDetachesNobody() {
        RoamBooks x = Scene.one();
        x.agree(0, 1, 0, 10, 0, 0, 0);
        x.attach(0, 1);
        x.pass(60);
        Expect.due("attached", 1, x.subscriberIs(0, 0));
        Expect.due("contact", 60, x.contact(1, 0));
    }
}
