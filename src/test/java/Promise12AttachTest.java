/** Promise 12: attach, why a try fails, and how tries are steered. */
public final class Promise12AttachTest {
    private Promise12AttachTest() {
    }

    public static void main(String[] args) {
        Cases.run(Promise12AttachTest.class);
    }

    // ---- why a try fails

    static void notReceivedComesBeforeDead() {
        RoamBooks x = Scene.receiving(1);
        x.subscriber(0, 0, 2);
        x.dead(1, true);
        Expect.due("attach", 1, x.attach(0, 1));
    }

    static void deadComesBeforeForbidden() {
        RoamBooks x = Scene.receiving(3);
        x.subscriber(0, 0, 2);
        x.dead(1, true);
        Expect.due("attach", 2, x.attach(0, 1));
    }

    static void forbiddenComesBeforeNoAgreement() {
        RoamBooks x = Scene.receiving(3);
        x.subscriber(0, 0, 2);
        Expect.due("attach", 3, x.attach(0, 1));
    }

    static void noAgreementComesBeforeSteered() {
        RoamBooks x = Scene.one();
        x.agree(0, 1, 0, Scene.FOREVER, 5, 0, 5);
        x.steer(0, 1);
        Expect.due("attach", 4, x.attach(0, 2));
        Expect.due("steered", 0, x.subscriberIs(0, 2));
    }

    static void steeredComesLast() {
        RoamBooks x = Scene.steered();
        Expect.due("attach", 5, x.attach(0, 2));
    }

    static void withoutAnyReasonItIsAttached() {
        RoamBooks x = Scene.oneWhoMayRoam();
        Expect.due("attach", 0, x.attach(0, 2));
        Expect.due("attached", 2, x.subscriberIs(0, 0));
    }

    static void theHomeNeedsNoAgreementButMayFailOtherwise() {
        RoamBooks x = Scene.receiving(1);
        x.subscriber(0, 0, 0);
        x.subscriber(0, 0, 1);
        x.subscriber(0, 1, 0);
        Expect.due("needs none", 0, x.attach(0, 0));
        Expect.due("forbidden", 3, x.attach(1, 0));
        Expect.due("not received", 1, x.attach(2, 0));
        x.dead(0, true);
        Expect.due("dead", 2, x.attach(0, 0));
    }

    static void aTryThatFailsLeavesItAttached() {
        RoamBooks x = Scene.steered();
        x.attach(0, 1);
        x.pass(5);
        Expect.due("steered", 5, x.attach(0, 2));
        Expect.due("not received", 1, x.attach(0, 3));
        Expect.due("attached", 1, x.subscriberIs(0, 0));
        Expect.due("contact", 0, x.contact(1, 0));
        Expect.due("contact in the other book", RoamBooks.NONE, x.contact(2, 0));
        Expect.due("where", 1, x.where(0));
    }

    static void itIsAttachedToNoOtherOne() {
        RoamBooks x = Scene.oneWhoMayRoam();
        x.attach(0, 1);
        Expect.due("attach", 0, x.attach(0, 2));
        Expect.due("attached", 2, x.subscriberIs(0, 0));
        Expect.due("the first again", 0, x.attach(0, 1));
    }

    // ---- wrong inputs

    static void attachedToThatOneIsRefused() {
        Refused.notNow(Scene::busy, x -> x.attach(0, 1));
    }

    static void attachedToThatOneComesBeforeNoAgreement() {
        RoamBooks x = Scene.one();
        x.agree(0, 1, 0, 10, 0, 0, 0);
        x.attach(0, 1);
        x.pass(10);
        Expect.notNow("attach", () -> x.attach(0, 1));
    }

    static void attachedToThatOneComesBeforeSteered() {
        RoamBooks x = Scene.oneWhoMayRoam();
        x.attach(0, 2);
        x.steer(0, 1);
        Expect.notNow("attach", () -> x.attach(0, 2));
        Expect.due("steered", 0, x.subscriberIs(0, 2));
    }

    static void whoWasDetachedIsNotRefused() {
        RoamBooks x = Scene.one();
        x.attach(0, 0);
        x.off(0);
        Expect.due("attach", 0, x.attach(0, 0));
    }

    static void networkZeroIsTheLeastAndFiveTheGreatest() {
        RoamBooks x = Scene.receiving(33);
        x.subscriber(0, 0, 0);
        x.subscriber(5, 0, 0);
        Expect.due("attach to 0", 0, x.attach(0, 0));
        Expect.due("attach to 5", 0, x.attach(1, 5));
    }

    static void networkMinusOneIsNone() {
        Refused.noSuch(x -> x.attach(1, -1));
    }

    static void networkMinusOneIsNoneForWhoIsAttachedToNoneToo() {
        Refused.noSuch(x -> x.attach(3, RoamBooks.NONE));
    }

    static void networkSixIsNone() {
        Refused.noSuch(x -> x.attach(1, 6));
    }

    static void networksFarOffAreNone() {
        Refused.noSuchFarOff((x, far) -> x.attach(1, far));
    }

    static void subscriberNineIsTheGreatest() {
        RoamBooks x = Scene.ten();
        Expect.due("attach", 0, x.attach(9, 0));
        Expect.due("attached", 0, x.subscriberIs(9, 0));
    }

    static void subscriberTenIsNone() {
        Refused.noSuch(Scene::ten, x -> x.attach(10, 0));
    }

    static void subscriberMinusOneIsNone() {
        Refused.noSuch(x -> x.attach(-1, 0));
    }

    static void subscriberNotToldYetIsNone() {
        Refused.noSuch(RoamBooks::new, x -> x.attach(0, 0));
        Refused.noSuch(x -> x.attach(4, 0));
    }

    static void subscribersFarOffAreNone() {
        Refused.noSuchFarOff((x, far) -> x.attach(far, 0));
    }

    // ---- steered tries

    static void twoTriesAreSteeredTheThirdIsNot() {
        RoamBooks x = Scene.steered();
        Expect.due("first", 5, x.attach(0, 2));
        Expect.due("counted", 1, x.subscriberIs(0, 2));
        Expect.due("second", 5, x.attach(0, 2));
        Expect.due("counted", 2, x.subscriberIs(0, 2));
        Expect.due("third", 0, x.attach(0, 2));
    }

    static void aTryForTheHomeIsSteeredToo() {
        RoamBooks x = Scene.steered();
        Expect.due("first", 5, x.attach(0, 0));
        Expect.due("second", 5, x.attach(0, 0));
        Expect.due("third", 0, x.attach(0, 0));
    }

    static void triesForTwoNetworksAreCountedTogether() {
        RoamBooks x = Scene.steered();
        Expect.due("first", 5, x.attach(0, 0));
        Expect.due("second", 5, x.attach(0, 2));
        Expect.due("third", 0, x.attach(0, 0));
    }

    static void aTryForTheFavouriteIsNotSteered() {
        RoamBooks x = Scene.steered();
        Expect.due("attach", 0, x.attach(0, 1));
    }

    static void whoIsAttachedToTheFavouriteIsSteeredToo() {
        RoamBooks x = Scene.steered();
        x.attach(0, 1);
        Expect.due("attach", 5, x.attach(0, 2));
    }

    static void withoutAFavouriteNoneIsSteered() {
        RoamBooks x = Scene.oneWhoMayRoam();
        Expect.due("attach", 0, x.attach(0, 2));
    }

    static void attachingBeginsAnew() {
        RoamBooks x = Scene.steered();
        x.attach(0, 2);
        x.attach(0, 2);
        x.attach(0, 2);
        Expect.due("counted", 0, x.subscriberIs(0, 2));
        Expect.due("first", 5, x.attach(0, 0));
        Expect.due("second", 5, x.attach(0, 0));
        Expect.due("third", 0, x.attach(0, 0));
    }

    static void attachingToTheFavouriteBeginsAnew() {
        RoamBooks x = Scene.steered();
        x.attach(0, 2);
        x.attach(0, 1);
        Expect.due("counted", 0, x.subscriberIs(0, 2));
        Expect.due("first", 5, x.attach(0, 2));
        Expect.due("second", 5, x.attach(0, 2));
        Expect.due("third", 0, x.attach(0, 2));
    }

    static void beingMovedBeginsAnew() {
        RoamBooks x = Scene.steered();
        x.attach(0, 2);
        x.attach(0, 2);
        x.move(0, 0);
        Expect.due("first", 5, x.attach(0, 2));
        Expect.due("second", 5, x.attach(0, 2));
        Expect.due("third", 0, x.attach(0, 2));
    }

    static void nothingElseBeginsAnew() {
        RoamBooks x = Scene.steered();
        x.attach(0, 2);
        x.attach(0, 2);
        x.off(0);
        x.reach(0, 0);
        x.reach(0, 7);
        x.dead(1, true);
        x.dead(1, false);
        x.steer(0, RoamBooks.NONE);
        x.steer(0, 1);
        x.pass(50000);
        x.attach(0, 5);
        Expect.due("counted", 2, x.subscriberIs(0, 2));
        Expect.due("third", 0, x.attach(0, 2));
    }

    static void triesThatFailOtherwiseAreNotCounted() {
        RoamBooks x = Scene.steered();
        x.attach(0, 5);
        x.dead(2, true);
        x.attach(0, 2);
        x.attach(0, 2);
        x.dead(2, false);
        Expect.due("counted", 0, x.subscriberIs(0, 2));
        Expect.due("first", 5, x.attach(0, 2));
    }

    static void eachSubscriberIsCountedForItself() {
        RoamBooks x = Scene.steered();
        x.subscriber(0, 0, 0);
        x.attach(0, 2);
        x.attach(0, 2);
        Expect.due("counted", 0, x.subscriberIs(1, 2));
        Expect.due("first of the other one", 5, x.attach(1, 2));
    }

    static void aFavouriteNotReceivedDoesNotSteer() {
        RoamBooks x = Scene.steered();
        x.reach(0, 5);
        Expect.due("attach", 0, x.attach(0, 2));
    }

    static void aFavouriteThatIsDeadDoesNotSteer() {
        RoamBooks x = Scene.steered();
        x.dead(1, true);
        Expect.due("attach", 0, x.attach(0, 2));
    }

    static void aFavouriteThatTheCardForbidsDoesNotSteer() {
        RoamBooks x = Scene.steered();
        x.subscriber(0, 0, 2);
        Expect.due("attach", 0, x.attach(1, 2));
    }

    static void aFavouriteWithoutAnAgreementNowDoesNotSteer() {
        int[] due = {0, 5, 5, 0};
        for (int minute = 4; minute < 8; minute++) {
            RoamBooks x = Scene.one();
            x.steer(0, 1);
            x.agree(0, 1, 5, 7, 0, 0, 0);
            x.pass(minute);
            Expect.due("attach in minute " + minute, due[minute - 4], x.attach(0, 0));
        }
    }

    static void theFavouriteOfAnotherHomeDoesNotSteer() {
        RoamBooks x = Scene.oneWhoMayRoam();
        x.agree(2, 1, 0, Scene.FOREVER, 0, 0, 0);
        x.steer(2, 1);
        Expect.due("attach", 0, x.attach(0, 2));
    }

    // ---- what it does to the books

    static void itIsPutIntoTheBookWithThisMinute() {
        RoamBooks x = Scene.one();
        x.pass(77);
        x.attach(0, 0);
        Expect.due("contact", 77, x.contact(0, 0));
        Expect.due("where", 0, x.where(0));
    }

    static void itIsPutIntoTheBookInTheLastMinute() {
        RoamBooks x = Scene.one();
        Scene.passTo(x, 0, Scene.LAST_MINUTE);
        x.attach(0, 0);
        Expect.due("contact", Scene.LAST_MINUTE, x.contact(0, 0));
    }

    static void theBookOfTheNoteLosesIt() {
        RoamBooks x = Scene.oneWhoMayRoam();
        x.subscriber(0, 0, 0);
        x.attach(0, 0);
        x.attach(1, 0);
        x.attach(0, 1);
        Expect.due("in the old book", RoamBooks.NONE, x.contact(0, 0));
        Expect.due("others in it", 0, x.contact(0, 1));
        Expect.due("in the new book", 0, x.contact(1, 0));
        Expect.due("where", 1, x.where(0));
    }

    static void aBookThatTheNoteDoesNotHaveKeepsIt() {
        RoamBooks x = Scene.oneWhoMayRoam();
        x.attach(0, 0);
        x.lose(1, 1);
        x.attach(0, 1);
        x.attach(0, 2);
        Expect.due("in the book of the note", RoamBooks.NONE, x.contact(0, 0));
        Expect.due("in the book that it did not have", 0, x.contact(1, 0));
        Expect.due("where", 2, x.where(0));
    }

    static void withTheSameNoteTheBookKeepsIt() {
        RoamBooks x = Scene.one();
        x.attach(0, 0);
        x.off(0);
        x.pass(9);
        x.attach(0, 0);
        Expect.due("contact", 9, x.contact(0, 0));
        Expect.due("where", 0, x.where(0));
    }
}
