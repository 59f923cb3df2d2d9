/** Promise 19: call. */
public final class Promise19CallTest {
    private Promise19CallTest() {
    }

    public static void main(String[] args) {
        Cases.run(Promise19CallTest.class);
    }

    private static RoamBooks with200Calls() {
        RoamBooks x = Scene.busy();
        for (int i = 3; i < 200; i++) {
            Expect.due("call", 0, x.call(1, 0, 1));
        }
        return x;
    }

    private static int paidForSeconds(int seconds) {
        RoamBooks x = Scene.talkers();
        x.prices(0, 10, 1, 20);
        Expect.due("call", 0, x.call(0, 1, seconds));
        Expect.due("recorded", x.subscriberIs(0, 3), x.recorded(1, 0, 0));
        return x.subscriberIs(0, 3);
    }

    // ---- why it fails

    static void callerNotAttachedComesFirst() {
        RoamBooks x = Scene.one();
        x.subscriber(1, 0, 0);
        Expect.due("call", 1, x.call(0, 1, 60));
        x.attach(1, 1);
        Expect.due("the other one is attached", 1, x.call(0, 1, 60));
    }

    static void noNoteComesBeforeNotInTheBook() {
        RoamBooks x = Scene.one();
        x.subscriber(1, 0, 0);
        x.attach(0, 0);
        Expect.due("call", 2, x.call(0, 1, 60));
        x.lose(1, 1);
        x.attach(1, 1);
        Expect.due("attached, but the notice was lost", 2, x.call(0, 1, 60));
    }

    static void notInTheBookComesBeforeNotAttachedThere() {
        RoamBooks x = Scene.guestAndHost();
        x.off(1);
        x.crash(1);
        Expect.due("call", 3, x.call(0, 1, 60));
    }

    static void notInTheBookFailsThoughItIsAttachedThere() {
        RoamBooks x = Scene.guestAndHost();
        x.crash(1);
        Expect.due("call", 3, x.call(0, 1, 60));
        x.pass(59);
        Expect.due("before the hour", 3, x.call(0, 1, 60));
        x.pass(1);
        Expect.due("with the hour", 0, x.call(0, 1, 60));
    }

    static void notAttachedThereComesBeforeTheCaps() {
        RoamBooks x = Scene.guestAndHost();
        x.cap(0, 0, false);
        x.off(1);
        Expect.due("attached to none", 4, x.call(0, 1, 60));
    }

    static void attachedToAnotherOneThanTheNoteHas() {
        RoamBooks x = Scene.guestAndHost();
        x.lose(0, 1);
        x.attach(0, 0);
        Expect.due("call", 4, x.call(1, 0, 60));
    }

    static void whoIsOffIsFoundNotInTheBookFrom180MinutesOn() {
        RoamBooks x = Scene.guestAndHost();
        x.off(1);
        x.pass(179);
        Expect.due("in minute 179", 4, x.call(0, 1, 60));
        x.pass(1);
        Expect.due("in minute 180", 3, x.call(0, 1, 60));
    }

    static void theCallersCapComesBeforeTheOthers() {
        RoamBooks x = Scene.guestAndHost();
        x.agree(1, 0, 0, Scene.FOREVER, 0, 0, 0);
        x.attach(1, 0);
        x.cap(0, 0, false);
        x.cap(1, 0, false);
        Expect.due("both would", 5, x.call(0, 1, 60));
        x.cap(0, 50, false);
        Expect.due("the other one would", 6, x.call(0, 1, 60));
        x.cap(1, 20, false);
        Expect.due("none would", 0, x.call(0, 1, 60));
    }

    static void theCallersBookAndNoteDoNotMatter() {
        RoamBooks x = Scene.one();
        x.subscriber(1, 0, 0);
        x.lose(0, 1);
        x.attach(0, 0);
        x.attach(1, 1);
        x.crash(0);
        Expect.due("call", 0, x.call(0, 1, 60));
    }

    static void oneThatFailsChangesNothing() {
        RoamBooks x = Scene.guestAndHost();
        x.cap(0, 49, false);
        Expect.due("the caller's cap", 5, x.call(0, 1, 60));
        x.cap(0, 19, false);
        Expect.due("the other one's cap", 6, x.call(1, 0, 60));
        Expect.due("the guest paid", 0, x.subscriberIs(0, 3));
        Expect.due("the guest paid abroad", 0, x.subscriberIs(0, 4));
        Expect.due("the host paid", 0, x.subscriberIs(1, 3));
        Expect.due("the host paid, anew", 0, x.paidAnew(1));
        Expect.due("recorded", 0, x.recorded(1, 0, 0));
    }

    // ---- seconds and minutes

    static void oneSecondIsTheLeastAndAMinute() {
        Expect.due("paid", 1, paidForSeconds(1));
    }

    static void secondsAreRoundedUpToMinutes() {
        Expect.due("paid for 59", 1, paidForSeconds(59));
        Expect.due("paid for 60", 1, paidForSeconds(60));
        Expect.due("paid for 61", 2, paidForSeconds(61));
        Expect.due("paid for 120", 2, paidForSeconds(120));
        Expect.due("paid for 121", 3, paidForSeconds(121));
    }

    static void the36000SecondsAreTheGreatestAnd600Minutes() {
        Expect.due("paid for 35940", 599, paidForSeconds(35940));
        Expect.due("paid for 35941", 600, paidForSeconds(35941));
        Expect.due("paid for 36000", 600, paidForSeconds(36000));
    }

    static void zeroSecondsAreOutOfRange() {
        Refused.outOfRange(x -> x.call(0, 1, 0));
    }

    static void minusOneSecondIsOutOfRange() {
        Refused.outOfRange(x -> x.call(0, 1, -1));
    }

    static void the36001SecondsAreOutOfRange() {
        Refused.outOfRange(x -> x.call(0, 1, 36001));
    }

    static void secondsFarOffAreOutOfRange() {
        Refused.outOfRangeFarOff((x, far) -> x.call(0, 1, far));
    }

    // ---- who pays, and what is recorded

    static void atHomeBothPayAsAtHome() {
        RoamBooks x = Scene.ten();
        x.attach(0, 0);
        x.attach(1, 0);
        x.call(0, 1, 120);
        Expect.due("the caller", 20, x.subscriberIs(0, 3));
        Expect.due("the other one", 0, x.subscriberIs(1, 3));
        Expect.due("recorded", 0, x.recorded(0, 0, 0));
    }

    static void whoCallsAbroadIsRecorded() {
        RoamBooks x = Scene.guestAndHost();
        x.call(0, 1, 120);
        Expect.due("the guest", 100, x.subscriberIs(0, 3));
        Expect.due("the host", 0, x.subscriberIs(1, 3));
        Expect.due("recorded", 2, x.recorded(1, 0, 0));
        Expect.due("the other way round", 0, x.recorded(0, 1, 0));
    }

    static void whoIsCalledAbroadIsRecorded() {
        RoamBooks x = Scene.guestAndHost();
        x.call(1, 0, 120);
        Expect.due("the host", 20, x.subscriberIs(1, 3));
        Expect.due("the guest", 40, x.subscriberIs(0, 3));
        Expect.due("recorded", 2, x.recorded(1, 0, 0));
    }

    static void bothAbroadAreBothRecorded() {
        RoamBooks x = Scene.oneWhoMayRoam();
        x.subscriber(0, 0, 0);
        x.attach(0, 1);
        x.attach(1, 1);
        x.call(0, 1, 180);
        Expect.due("by the same network", 6, x.recorded(1, 0, 0));
        x.attach(1, 2);
        x.call(0, 1, 60);
        Expect.due("by the caller's", 7, x.recorded(1, 0, 0));
        Expect.due("by the other one's", 1, x.recorded(2, 0, 0));
    }

    static void whoPaysNothingAbroadIsRecordedStill() {
        RoamBooks x = Scene.guestAndHost();
        x.prices(0, 0, 0, 0);
        x.call(0, 1, 60);
        Expect.due("recorded", 1, x.recorded(1, 0, 0));
    }

    // ---- wrong inputs, and how many there may be

    static void bothTheSameIsOutOfRange() {
        Refused.outOfRange(x -> x.call(0, 0, 60));
        Refused.outOfRange(x -> x.call(3, 3, 60));
    }

    static void subscriberNineIsTheGreatestOfBoth() {
        RoamBooks x = Scene.ten();
        x.attach(8, 0);
        x.attach(9, 0);
        Expect.due("it calls", 0, x.call(9, 8, 60));
        Expect.due("it is called", 0, x.call(8, 9, 60));
    }

    static void subscriberTenIsNone() {
        Refused.noSuch(Scene::ten, x -> x.call(10, 0, 60));
        Refused.noSuch(Scene::ten, x -> x.call(0, 10, 60));
    }

    static void subscriberMinusOneIsNone() {
        Refused.noSuch(x -> x.call(-1, 1, 60));
        Refused.noSuch(x -> x.call(1, -1, 60));
    }

    static void subscriberNotToldYetIsNone() {
        Refused.noSuch(RoamBooks::new, x -> x.call(0, 1, 60));
        Refused.noSuch(x -> x.call(4, 1, 60));
        Refused.noSuch(x -> x.call(1, 4, 60));
    }

    static void subscribersFarOffAreNone() {
        Refused.noSuchFarOff((x, far) -> x.call(far, 1, 60));
        Refused.noSuchFarOff((x, far) -> x.call(1, far, 60));
    }

    static void subscribersAreLookedAtBeforeThatBothAreTheSame() {
        Refused.noSuch(x -> x.call(4, 4, 60));
        Refused.noSuch(x -> x.call(-1, -1, 60));
    }

    static void subscribersAreLookedAtBeforeTheSeconds() {
        Refused.noSuch(x -> x.call(0, 4, 0));
        Refused.noSuch(x -> x.call(4, 0, 36001));
    }

    static void argumentsAreLookedAtBeforeWhyItFails() {
        RoamBooks x = Scene.ten();
        Expect.outOfRange("seconds", () -> x.call(0, 1, 0));
        Expect.outOfRange("both the same", () -> x.call(0, 0, 60));
        Expect.due("it fails", 1, x.call(0, 1, 60));
    }

    static void twoHundredAreAsManyAsMayBe() {
        RoamBooks x = Scene.ten();
        x.attach(0, 0);
        x.attach(1, 0);
        for (int i = 1; i <= 200; i++) {
            Expect.due("call " + i, 0, x.call(0, 1, 60));
        }
        Expect.due("paid", 2000, x.subscriberIs(0, 3));
    }

    static void the201stIsRefused() {
        Refused.notNow(Promise19CallTest::with200Calls, x -> x.call(1, 0, 1));
    }

    static void one201stThatWouldFailIsRefusedToo() {
        Refused.notNow(Promise19CallTest::with200Calls, x -> x.call(3, 0, 1));
    }

    static void subscribersAreLookedAtBeforeThatThereWere200() {
        Refused.noSuch(Promise19CallTest::with200Calls, x -> x.call(4, 0, 1));
    }

    static void argumentsAreLookedAtBeforeThatThereWere200() {
        Refused.outOfRange(Promise19CallTest::with200Calls, x -> x.call(1, 0, 0));
        Refused.outOfRange(Promise19CallTest::with200Calls, x -> x.call(1, 1, 1));
    }

    static void thoseThatFailDoNotCount() {
        RoamBooks x = Scene.guestAndHost();
        for (int i = 0; i < 200; i++) {
            Expect.due("it fails", 5, x.call(0, 1, 36000));
        }
        for (int i = 1; i <= 200; i++) {
            Expect.due("call " + i, 0, x.call(1, 0, 1));
        }
        Expect.notNow("the 201st", () -> x.call(1, 0, 1));
    }
}
