/** Promise 2: reach. */
public final class Promise02ReachTest {
    private Promise02ReachTest() {
    }

    public static void main(String[] args) {
        Cases.run(Promise02ReachTest.class);
    }

    static void returnsTheSetBefore() {
        RoamBooks x = new RoamBooks();
        Expect.due("at first", 0, x.reach(3, 63));
        Expect.due("then", 63, x.reach(3, 5));
        Expect.due("then", 5, x.reach(3, 5));
        Expect.due("then", 5, x.reach(3, 0));
        Expect.due("then", 0, x.reach(3, 0));
    }

    static void placeZeroIsTheLeast() {
        RoamBooks x = new RoamBooks();
        x.reach(0, 9);
        Expect.due("before", 9, x.reach(0, 0));
    }

    static void placeSevenIsTheGreatest() {
        RoamBooks x = new RoamBooks();
        x.reach(7, 9);
        Expect.due("before", 9, x.reach(7, 0));
    }

    static void placeMinusOneIsNone() {
        Refused.noSuch(x -> x.reach(-1, 1));
    }

    static void placeEightIsNone() {
        Refused.noSuch(x -> x.reach(8, 1));
    }

    static void placesFarOffAreNone() {
        Refused.noSuchFarOff((x, far) -> x.reach(far, 1));
    }

    static void setZeroIsTheLeastAndHasNoNetwork() {
        RoamBooks x = Scene.receiving(63);
        x.subscriber(0, 0, 0);
        Expect.due("before", 63, x.reach(0, 0));
        for (int network = 0; network < 6; network++) {
            Expect.due("attach to " + network, 1, x.attach(0, network));
        }
    }

    static void set63IsTheGreatestAndHasEachNetwork() {
        RoamBooks x = Scene.receiving(63);
        for (int home = 0; home < 6; home++) {
            Expect.due("attach to " + home, 0, x.attach(x.subscriber(home, 0, 0), home));
        }
    }

    static void eachNetworkIsASetOfItsOwn() {
        for (int network = 0; network < 6; network++) {
            RoamBooks x = Scene.receiving(1 << network);
            for (int home = 0; home < 6; home++) {
                int why = home == network ? 0 : 1;
                Expect.due(home + " by " + (1 << network), why, x.attach(x.subscriber(home, 0, 0), home));
            }
        }
    }

    static void setMinusOneIsOutOfRange() {
        Refused.outOfRange(x -> x.reach(0, -1));
    }

    static void set64IsOutOfRange() {
        Refused.outOfRange(x -> x.reach(0, 64));
    }

    static void setsFarOffAreOutOfRange() {
        Refused.outOfRangeFarOff((x, far) -> x.reach(0, far));
    }

    static void thePlaceIsLookedAtBeforeTheSet() {
        Refused.noSuch(x -> x.reach(8, 64));
    }

    static void whoIsAttachedToOneNotReceivedAnyMoreIsDetached() {
        RoamBooks x = Scene.guestAndHost();
        x.reach(0, 5);
        Expect.due("attached", RoamBooks.NONE, x.subscriberIs(0, 0));
        Expect.due("the host too", RoamBooks.NONE, x.subscriberIs(1, 0));
    }

    static void whoIsAttachedToOneReceivedStillStays() {
        RoamBooks x = Scene.guestAndHost();
        x.reach(0, 2);
        Expect.due("attached", 1, x.subscriberIs(0, 0));
    }

    static void whoIsAtAnotherPlaceStays() {
        RoamBooks x = Scene.guestAndHost();
        x.reach(1, 2);
        x.move(0, 1);
        x.reach(0, 0);
        Expect.due("at the other place", 1, x.subscriberIs(0, 0));
        Expect.due("at the place", RoamBooks.NONE, x.subscriberIs(1, 0));
    }

    static void allTenAtAPlaceAreDetached() {
        RoamBooks x = Scene.ten();
        for (int s = 0; s < 10; s++) {
            x.attach(s, 0);
        }
        x.reach(0, 62);
        for (int s = 0; s < 10; s++) {
            Expect.due("attached " + s, RoamBooks.NONE, x.subscriberIs(s, 0));
        }
    }

    static void theBookAndTheNoteStay() {
        RoamBooks x = Scene.guestAndHost();
        x.reach(0, 0);
        Expect.due("contact", 0, x.contact(1, 0));
        Expect.due("where", 1, x.where(0));
    }

    static void whoWasDetachedIsNotAttachedByANewSet() {
        RoamBooks x = Scene.guestAndHost();
        x.reach(0, 0);
        x.reach(0, 7);
        Expect.due("attached", RoamBooks.NONE, x.subscriberIs(0, 0));
    }
}
