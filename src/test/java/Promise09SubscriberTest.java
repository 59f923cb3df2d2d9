/** Promise 9: subscriber. */
public final class Promise09SubscriberTest {
    private Promise09SubscriberTest() {
    }

    public static void main(String[] args) {
        Cases.run(Promise09SubscriberTest.class);
    }

    private static RoamBooks full() {
        RoamBooks x = Scene.busy();
        for (int i = 4; i < 10; i++) {
            x.subscriber(0, 0, 0);
        }
        return x;
    }

    static void theyAreNumberedFromZero() {
        RoamBooks x = new RoamBooks();
        Expect.due("the first", 0, x.subscriber(3, 4, 5));
        Expect.due("the second, told alike", 1, x.subscriber(3, 4, 5));
        Expect.due("the third", 2, x.subscriber(0, 0, 0));
    }

    static void tenAreAsManyAsMayBe() {
        RoamBooks x = new RoamBooks();
        for (int i = 0; i < 10; i++) {
            Expect.due("subscriber", i, x.subscriber(i % 6, i % 8, i));
        }
    }

    static void theEleventhIsRefused() {
        Refused.notNow(Promise09SubscriberTest::full, x -> x.subscriber(0, 0, 0));
    }

    static void networksAndPlacesAreLookedAtBeforeThatThereAreTen() {
        Refused.noSuch(Promise09SubscriberTest::full, x -> x.subscriber(6, 0, 0));
        Refused.noSuch(Promise09SubscriberTest::full, x -> x.subscriber(0, 8, 0));
    }

    static void theSetIsLookedAtBeforeThatThereAreTen() {
        Refused.outOfRange(Promise09SubscriberTest::full, x -> x.subscriber(0, 0, 64));
    }

    static void aRefusedOneTakesNoNumber() {
        RoamBooks x = new RoamBooks();
        x.subscriber(0, 0, 0);
        Expect.outOfRange("a set that is none", () -> x.subscriber(0, 0, 64));
        Expect.due("the next", 1, x.subscriber(0, 0, 0));
    }

    static void homeZeroIsTheLeastAndFiveTheGreatest() {
        RoamBooks x = Scene.receiving(63);
        x.subscriber(0, 0, 0);
        x.subscriber(5, 0, 0);
        Expect.due("its home 0", 0, x.attach(0, 0));
        Expect.due("its home 5", 0, x.attach(1, 5));
    }

    static void homeMinusOneIsNone() {
        Refused.noSuch(x -> x.subscriber(-1, 0, 0));
    }

    static void homeSixIsNone() {
        Refused.noSuch(x -> x.subscriber(6, 0, 0));
    }

    static void homesFarOffAreNone() {
        Refused.noSuchFarOff((x, far) -> x.subscriber(far, 0, 0));
    }

    static void placeZeroIsTheLeastAndSevenTheGreatest() {
        RoamBooks x = new RoamBooks();
        x.subscriber(0, 0, 0);
        x.subscriber(0, 7, 0);
        Expect.due("its place", 0, x.subscriberIs(0, 1));
        Expect.due("its place", 7, x.subscriberIs(1, 1));
    }

    static void placeMinusOneIsNone() {
        Refused.noSuch(x -> x.subscriber(0, -1, 0));
    }

    static void placeEightIsNone() {
        Refused.noSuch(x -> x.subscriber(0, 8, 0));
    }

    static void placesFarOffAreNone() {
        Refused.noSuchFarOff((x, far) -> x.subscriber(0, far, 0));
    }

    static void setZeroIsTheLeastAndForbidsNone() {
        RoamBooks x = Scene.receiving(63);
        for (int home = 0; home < 6; home++) {
            Expect.due("attach", 0, x.attach(x.subscriber(home, 0, 0), home));
        }
    }

    static void set63IsTheGreatestAndForbidsTheHomeToo() {
        RoamBooks x = Scene.receiving(63);
        x.subscriber(2, 0, 63);
        for (int network = 0; network < 6; network++) {
            Expect.due("attach to " + network, 3, x.attach(0, network));
        }
    }

    static void eachNetworkIsASetOfItsOwn() {
        RoamBooks x = Scene.receiving(63);
        for (int forbidden = 0; forbidden < 6; forbidden++) {
            int s = x.subscriber(forbidden, 0, 1 << forbidden);
            for (int network = 0; network < 6; network++) {
                int why = network == forbidden ? 3 : 4;
                Expect.due(network + " by " + (1 << forbidden), why, x.attach(s, network));
            }
        }
    }

    static void setMinusOneIsOutOfRange() {
        Refused.outOfRange(x -> x.subscriber(0, 0, -1));
    }

    static void set64IsOutOfRange() {
        Refused.outOfRange(x -> x.subscriber(0, 0, 64));
    }

    static void setsFarOffAreOutOfRange() {
        Refused.outOfRangeFarOff((x, far) -> x.subscriber(0, 0, far));
    }

    static void networksAndPlacesAreLookedAtBeforeTheSet() {
        Refused.noSuch(x -> x.subscriber(6, 0, 64));
        Refused.noSuch(x -> x.subscriber(0, 8, 64));
    }

    static void aNewOneIsAttachedToNoneAndInNoBook() {
        RoamBooks x = Scene.one();
        Expect.due("attached", RoamBooks.NONE, x.subscriberIs(0, 0));
        Expect.due("where", RoamBooks.NONE, x.where(0));
        for (int network = 0; network < 6; network++) {
            Expect.due("contact", RoamBooks.NONE, x.contact(network, 0));
        }
        Expect.due("agrees", true, x.agrees(0));
    }
}
