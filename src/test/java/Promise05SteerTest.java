/** Promise 5: steer. */
public final class Promise05SteerTest {
    private Promise05SteerTest() {
    }

    public static void main(String[] args) {
        Cases.run(Promise05SteerTest.class);
    }

    static void returnsTheOneBefore() {
        RoamBooks x = new RoamBooks();
        Expect.due("at first", RoamBooks.NONE, x.steer(1, 2));
        Expect.due("then", 2, x.steer(1, 3));
        Expect.due("then", 3, x.steer(1, 3));
        Expect.due("then", 3, x.steer(1, RoamBooks.NONE));
        Expect.due("then", RoamBooks.NONE, x.steer(1, RoamBooks.NONE));
    }

    static void homeZeroIsTheLeastAndNetworkFiveTheGreatest() {
        RoamBooks x = new RoamBooks();
        x.steer(0, 5);
        Expect.due("before", 5, x.steer(0, RoamBooks.NONE));
    }

    static void homeFiveIsTheGreatestAndNetworkZeroTheLeast() {
        RoamBooks x = new RoamBooks();
        x.steer(5, 0);
        Expect.due("before", 0, x.steer(5, RoamBooks.NONE));
    }

    static void homeMinusOneIsNone() {
        Refused.noSuch(x -> x.steer(-1, 1));
    }

    static void homeSixIsNone() {
        Refused.noSuch(x -> x.steer(6, 1));
    }

    static void homesFarOffAreNone() {
        Refused.noSuchFarOff((x, far) -> x.steer(far, 1));
    }

    static void networkMinusTwoIsNone() {
        Refused.noSuch(x -> x.steer(0, -2));
    }

    static void networkSixIsNone() {
        Refused.noSuch(x -> x.steer(0, 6));
    }

    static void networksFarOffAreNone() {
        Refused.noSuchFarOff((x, far) -> x.steer(0, far));
    }

    static void theHomeItselfIsOutOfRange() {
        Refused.outOfRange(x -> x.steer(0, 0));
        Refused.outOfRange(x -> x.steer(5, 5));
    }

    static void networksAreLookedAtBeforeThatItIsTheHome() {
        Refused.noSuch(x -> x.steer(6, 6));
        Refused.noSuch(x -> x.steer(-1, RoamBooks.NONE));
    }

    static void eachNetworkIsAFavouriteForAnotherHome() {
        for (int network = 0; network < 6; network++) {
            int home = (network + 1) % 6;
            RoamBooks x = Scene.receiving(63);
            x.agree(home, network, 0, 1, 0, 0, 0);
            x.subscriber(home, 0, 0);
            x.steer(home, network);
            Expect.due("favourite " + network, 5, x.attach(0, home));
        }
    }

    static void itSteersItsOwnHomeAlone() {
        RoamBooks x = Scene.steered();
        x.agree(2, 1, 0, Scene.FOREVER, 0, 0, 0);
        int other = x.subscriber(2, 0, 0);
        Expect.due("of its home", 5, x.attach(0, 0));
        Expect.due("of another home", 0, x.attach(other, 2));
        Expect.due("the other's favourite", RoamBooks.NONE, x.steer(2, RoamBooks.NONE));
    }

    static void noneEndsIt() {
        RoamBooks x = Scene.steered();
        x.steer(0, RoamBooks.NONE);
        Expect.due("attach", 0, x.attach(0, 0));
    }

    static void theNewFavouriteHoldsInPlaceOfTheOld() {
        RoamBooks x = Scene.steered();
        x.steer(0, 2);
        Expect.due("the old one", 5, x.attach(0, 1));
        Expect.due("the new one", 0, x.attach(0, 2));
    }

    static void itMovesNobodyByItself() {
        RoamBooks x = Scene.oneWhoMayRoam();
        x.attach(0, 2);
        x.steer(0, 1);
        Expect.due("attached", 2, x.subscriberIs(0, 0));
    }
}
