/** Promise 7: lose. */
public final class Promise07LoseTest {
    private Promise07LoseTest() {
    }

    public static void main(String[] args) {
        Cases.run(Promise07LoseTest.class);
    }

    static void returnsHowManyWereLeft() {
        RoamBooks x = Scene.one();
        Expect.due("at first", 0, x.lose(0, 4));
        Expect.due("none was sent", 4, x.lose(0, 3));
        x.attach(0, 0);
        Expect.due("one was sent", 2, x.lose(0, 0));
    }

    static void whatWasToldIsReplacedNotAddedTo() {
        RoamBooks x = new RoamBooks();
        x.lose(0, 9);
        x.lose(0, 2);
        Expect.due("left", 2, x.lose(0, 0));
    }

    static void zeroIsTheLeastAndLosesNone() {
        RoamBooks x = Scene.one();
        x.lose(0, 9);
        Expect.due("left", 9, x.lose(0, 0));
        x.attach(0, 0);
        Expect.due("where", 0, x.where(0));
        Expect.due("left then", 0, x.lose(0, 0));
    }

    static void nineIsTheGreatestAndLosesNineNotTen() {
        RoamBooks x = Scene.ten();
        x.lose(0, 9);
        for (int s = 0; s < 10; s++) {
            x.attach(s, 0);
            Expect.due("where is " + s, s < 9 ? RoamBooks.NONE : 0, x.where(s));
        }
        Expect.due("left", 0, x.lose(0, 0));
    }

    static void oneLosesTheNextNotTheOneAfter() {
        RoamBooks x = Scene.ten();
        x.lose(0, 1);
        x.attach(4, 0);
        x.attach(2, 0);
        Expect.due("the next", RoamBooks.NONE, x.where(4));
        Expect.due("the one after", 0, x.where(2));
    }

    static void manyMinusOneIsOutOfRange() {
        Refused.outOfRange(x -> x.lose(1, -1));
    }

    static void manyTenIsOutOfRange() {
        Refused.outOfRange(x -> x.lose(1, 10));
    }

    static void manyFarOffIsOutOfRange() {
        Refused.outOfRangeFarOff((x, far) -> x.lose(1, far));
    }

    static void networkZeroIsTheLeast() {
        RoamBooks x = new RoamBooks();
        x.lose(0, 5);
        Expect.due("left", 5, x.lose(0, 0));
    }

    static void networkFiveIsTheGreatest() {
        RoamBooks x = new RoamBooks();
        x.lose(5, 5);
        Expect.due("left", 5, x.lose(5, 0));
    }

    static void networkMinusOneIsNone() {
        Refused.noSuch(x -> x.lose(-1, 1));
    }

    static void networkSixIsNone() {
        Refused.noSuch(x -> x.lose(6, 1));
    }

    static void networksFarOffAreNone() {
        Refused.noSuchFarOff((x, far) -> x.lose(far, 1));
    }

    static void theNetworkIsLookedAtBeforeMany() {
        Refused.noSuch(x -> x.lose(6, 10));
    }

    static void noticesOfOtherNetworksAreNotLost() {
        RoamBooks x = Scene.oneWhoMayRoam();
        x.lose(1, 2);
        x.attach(0, 0);
        Expect.due("where", 0, x.where(0));
        Expect.due("left", 2, x.lose(1, 0));
    }

    static void aLostNoticeIsPutIntoTheBookStill() {
        RoamBooks x = Scene.one();
        x.pass(5);
        x.lose(0, 1);
        x.attach(0, 0);
        Expect.due("contact", 5, x.contact(0, 0));
    }

    static void aLostNoticeLeavesTheNoteAndTheOtherBook() {
        RoamBooks x = Scene.oneWhoMayRoam();
        x.attach(0, 0);
        x.lose(1, 1);
        x.attach(0, 1);
        Expect.due("where", 0, x.where(0));
        Expect.due("in the old book", 0, x.contact(0, 0));
        Expect.due("in the new book", 0, x.contact(1, 0));
    }

    static void aTryThatFailsSendsNoNotice() {
        RoamBooks x = Scene.steered();
        x.lose(2, 1);
        Expect.due("steered", 5, x.attach(0, 2));
        x.dead(2, true);
        Expect.due("dead", 2, x.attach(0, 2));
        Expect.due("left", 1, x.lose(2, 0));
    }

    static void aNewHourSendsNoticesToo() {
        RoamBooks x = Scene.guestAndHost();
        x.lose(1, 5);
        x.pass(60);
        Expect.due("left after two contacts", 3, x.lose(1, 5));
        x.pass(59);
        Expect.due("left before the hour", 5, x.lose(1, 5));
        x.pass(121);
        Expect.due("left after three hours, one short", 0, x.lose(1, 0));
    }

    static void ofANewHourTheLowestNumbersAreLost() {
        RoamBooks x = Scene.ten();
        x.lose(0, 9);
        for (int s = 9; s > 0; s--) {
            x.attach(s, 0);
        }
        x.attach(0, 0);
        x.lose(0, 4);
        x.pass(60);
        for (int s = 1; s < 10; s++) {
            Expect.due("where is " + s, s < 4 ? RoamBooks.NONE : 0, x.where(s));
        }
    }

    static void whoIsOffSendsNone() {
        RoamBooks x = Scene.guestAndHost();
        x.off(0);
        x.lose(1, 5);
        x.pass(60);
        Expect.due("left", 4, x.lose(1, 0));
    }
}
