/** Promise 3: dead. */
public final class Promise03DeadTest {
    private Promise03DeadTest() {
    }

    public static void main(String[] args) {
        Cases.run(Promise03DeadTest.class);
    }

    static void returnsWhetherItWas() {
        RoamBooks x = new RoamBooks();
        Expect.due("at first", false, x.dead(2, true));
        Expect.due("then", true, x.dead(2, true));
        Expect.due("then", true, x.dead(2, false));
        Expect.due("then", false, x.dead(2, false));
        Expect.due("then", false, x.dead(2, true));
    }

    static void networkZeroIsTheLeast() {
        RoamBooks x = new RoamBooks();
        x.dead(0, true);
        Expect.due("it was", true, x.dead(0, true));
        Expect.due("its neighbour was not", false, x.dead(1, true));
    }

    static void networkFiveIsTheGreatest() {
        RoamBooks x = new RoamBooks();
        x.dead(5, true);
        Expect.due("it was", true, x.dead(5, true));
        Expect.due("its neighbour was not", false, x.dead(4, true));
    }

    static void networkMinusOneIsNone() {
        Refused.noSuch(x -> x.dead(-1, true));
    }

    static void networkSixIsNone() {
        Refused.noSuch(x -> x.dead(6, true));
    }

    static void networksFarOffAreNone() {
        Refused.noSuchFarOff((x, far) -> x.dead(far, true));
    }

    static void allTenAreDetachedWhereverTheyAre() {
        RoamBooks x = Scene.ten();
        x.reach(7, 1);
        for (int s = 0; s < 10; s++) {
            x.move(s, s % 2 * 7);
            x.attach(s, 0);
        }
        x.dead(0, true);
        for (int s = 0; s < 10; s++) {
            Expect.due("attached " + s, RoamBooks.NONE, x.subscriberIs(s, 0));
        }
    }

    static void itsBookIsEmpty() {
        RoamBooks x = Scene.guestAndHost();
        x.off(1);
        x.dead(1, true);
        Expect.due("who was attached", RoamBooks.NONE, x.contact(1, 0));
        Expect.due("who was off", RoamBooks.NONE, x.contact(1, 1));
        Expect.due("how many are in it", 0, x.crash(1));
    }

    static void theNoteStays() {
        RoamBooks x = Scene.guestAndHost();
        x.dead(1, true);
        Expect.due("where", 1, x.where(0));
    }

    static void otherNetworksAndTheirBooksStay() {
        RoamBooks x = Scene.guestAndHost();
        x.dead(0, true);
        x.dead(2, true);
        Expect.due("attached", 1, x.subscriberIs(0, 0));
        Expect.due("contact", 0, x.contact(1, 0));
    }

    static void nobodyAttachesToItFromNowOn() {
        RoamBooks x = Scene.one();
        x.dead(0, true);
        Expect.due("attach", 2, x.attach(0, 0));
        x.pass(50000);
        Expect.due("much later", 2, x.attach(0, 0));
    }

    static void aliveAgainItIsAttachedToByATryAlone() {
        RoamBooks x = Scene.one();
        x.attach(0, 0);
        x.dead(0, true);
        x.dead(0, false);
        Expect.due("attached", RoamBooks.NONE, x.subscriberIs(0, 0));
        Expect.due("in the book", RoamBooks.NONE, x.contact(0, 0));
        Expect.due("attach", 0, x.attach(0, 0));
    }

    static void toldAliveWhileAliveNobodyIsDetached() {
        RoamBooks x = Scene.guestAndHost();
        x.dead(1, false);
        Expect.due("attached", 1, x.subscriberIs(0, 0));
        Expect.due("in the book", 0, x.contact(1, 0));
    }

    static void aNewHourBringsNobodyBackIntoItsBook() {
        RoamBooks x = Scene.guestAndHost();
        x.dead(1, true);
        x.pass(60);
        Expect.due("in the book", RoamBooks.NONE, x.contact(1, 0));
    }
}
