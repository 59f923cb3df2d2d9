/** Promise 6: prices. */
public final class Promise06PricesTest {
    private Promise06PricesTest() {
    }

    public static void main(String[] args) {
        Cases.run(Promise06PricesTest.class);
    }

    // 0 is abroad in 1, 1 at home in 1, 2 at home in 0: home 0 and home 1 have prices of each kind.
    private static RoamBooks three() {
        RoamBooks x = Scene.guestAndHost();
        x.subscriber(0, 0, 0);
        x.attach(2, 0);
        return x;
    }

    private static int paidForCalling(RoamBooks x, int caller, int other) {
        int before = x.subscriberIs(caller, 3);
        Expect.due("call", 0, x.call(caller, other, 60));
        return x.subscriberIs(caller, 3) - before;
    }

    private static int paidForBeingCalled(RoamBooks x, int caller, int other) {
        int before = x.subscriberIs(other, 3);
        Expect.due("call", 0, x.call(caller, other, 60));
        return x.subscriberIs(other, 3) - before;
    }

    static void eachPriceIsForItsOwnKindOfCall() {
        RoamBooks x = three();
        x.prices(0, 3, 5, 7);
        Expect.due("at home", 3, paidForCalling(x, 2, 1));
        Expect.due("abroad", 5, paidForCalling(x, 0, 1));
        Expect.due("called abroad", 7, paidForBeingCalled(x, 1, 0));
        Expect.due("called at home", 0, paidForBeingCalled(x, 1, 2));
    }

    static void theyAreThoseOfTheirHomeAlone() {
        RoamBooks x = three();
        x.prices(0, 3, 5, 7);
        Expect.due("of another home", 10, paidForCalling(x, 1, 0));
        x.prices(1, 4, 6, 8);
        Expect.due("of its home", 4, paidForCalling(x, 1, 0));
        Expect.due("abroad, by its home", 5, paidForCalling(x, 0, 1));
    }

    static void theyHoldForCallsFromNowOn() {
        RoamBooks x = three();
        x.call(0, 1, 60);
        x.prices(0, 0, 0, 0);
        Expect.due("paid before", 50, x.subscriberIs(0, 3));
        Expect.due("paid before, anew", 50, x.paidAnew(0));
        Expect.due("from now on", 0, paidForCalling(x, 0, 1));
    }

    static void zeroIsTheLeastOfEach() {
        RoamBooks x = three();
        x.prices(0, 0, 0, 0);
        Expect.due("at home", 0, paidForCalling(x, 2, 1));
        Expect.due("abroad", 0, paidForCalling(x, 0, 1));
        Expect.due("called abroad", 0, paidForBeingCalled(x, 1, 0));
    }

    static void ninetyNineIsTheGreatestOfEach() {
        RoamBooks x = three();
        x.prices(0, 99, 99, 99);
        Expect.due("at home", 99, paidForCalling(x, 2, 1));
        Expect.due("abroad", 99, paidForCalling(x, 0, 1));
        Expect.due("called abroad", 99, paidForBeingCalled(x, 1, 0));
    }

    static void atHomeMinusOneIsOutOfRange() {
        Refused.outOfRange(x -> x.prices(0, -1, 1, 1));
    }

    static void atHome100IsOutOfRange() {
        Refused.outOfRange(x -> x.prices(0, 100, 1, 1));
    }

    static void atHomeFarOffIsOutOfRange() {
        Refused.outOfRangeFarOff((x, far) -> x.prices(0, far, 1, 1));
    }

    static void abroadMinusOneIsOutOfRange() {
        Refused.outOfRange(x -> x.prices(0, 1, -1, 1));
    }

    static void abroad100IsOutOfRange() {
        Refused.outOfRange(x -> x.prices(0, 1, 100, 1));
    }

    static void abroadFarOffIsOutOfRange() {
        Refused.outOfRangeFarOff((x, far) -> x.prices(0, 1, far, 1));
    }

    static void calledMinusOneIsOutOfRange() {
        Refused.outOfRange(x -> x.prices(0, 1, 1, -1));
    }

    static void called100IsOutOfRange() {
        Refused.outOfRange(x -> x.prices(0, 1, 1, 100));
    }

    static void calledFarOffIsOutOfRange() {
        Refused.outOfRangeFarOff((x, far) -> x.prices(0, 1, 1, far));
    }

    static void homeZeroIsTheLeast() {
        RoamBooks x = three();
        x.prices(0, 1, 2, 3);
        Expect.due("at home", 1, paidForCalling(x, 2, 1));
    }

    static void homeFiveIsTheGreatest() {
        RoamBooks x = Scene.guestAndHost();
        x.reach(0, 63);
        x.attach(x.subscriber(5, 0, 0), 5);
        x.prices(5, 1, 2, 3);
        Expect.due("at home", 1, paidForCalling(x, 2, 1));
    }

    static void homeMinusOneIsNone() {
        Refused.noSuch(x -> x.prices(-1, 1, 1, 1));
    }

    static void homeSixIsNone() {
        Refused.noSuch(x -> x.prices(6, 1, 1, 1));
    }

    static void homesFarOffAreNone() {
        Refused.noSuchFarOff((x, far) -> x.prices(far, 1, 1, 1));
    }

    static void theHomeIsLookedAtBeforeThePrices() {
        Refused.noSuch(x -> x.prices(6, 100, 100, 100));
    }
}
