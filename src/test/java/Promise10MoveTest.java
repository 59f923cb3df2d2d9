/** Promise 10: move. */
public final class Promise10MoveTest {
    private Promise10MoveTest() {
    }

    public static void main(String[] args) {
        Cases.run(Promise10MoveTest.class);
    }

    private static RoamBooks attachedToZero() {
        RoamBooks x = Scene.oneWhoMayRoam();
        x.reach(1, 1);
        x.reach(2, 6);
        x.attach(0, 0);
        return x;
    }

    static void whoIsReceivedThereStaysAttached() {
        RoamBooks x = attachedToZero();
        Expect.due("move", 0, x.move(0, 1));
        Expect.due("attached", 0, x.subscriberIs(0, 0));
        Expect.due("its place", 1, x.subscriberIs(0, 1));
    }

    static void whoIsNotReceivedThereIsDetached() {
        RoamBooks x = attachedToZero();
        Expect.due("move", RoamBooks.NONE, x.move(0, 2));
        Expect.due("attached", RoamBooks.NONE, x.subscriberIs(0, 0));
        Expect.due("its place", 2, x.subscriberIs(0, 1));
    }

    static void whereNothingIsReceivedItIsDetached() {
        RoamBooks x = attachedToZero();
        Expect.due("move", RoamBooks.NONE, x.move(0, 7));
    }

    static void toTheSamePlaceItStaysAttached() {
        RoamBooks x = attachedToZero();
        Expect.due("move", 0, x.move(0, 0));
    }

    static void whoIsAttachedToNoneStaysSo() {
        RoamBooks x = Scene.one();
        x.reach(1, 63);
        Expect.due("move", RoamBooks.NONE, x.move(0, 1));
        Expect.due("back", RoamBooks.NONE, x.move(0, 0));
    }

    static void whoCameBackIsNotAttachedByThat() {
        RoamBooks x = attachedToZero();
        x.move(0, 2);
        Expect.due("back", RoamBooks.NONE, x.move(0, 0));
    }

    static void aMoveIsNoContactAndNoNotice() {
        RoamBooks x = attachedToZero();
        x.pass(5);
        x.lose(0, 1);
        x.move(0, 1);
        Expect.due("contact", 0, x.contact(0, 0));
        Expect.due("left", 1, x.lose(0, 0));
    }

    static void theBookAndTheNoteStay() {
        RoamBooks x = attachedToZero();
        x.move(0, 2);
        Expect.due("contact", 0, x.contact(0, 0));
        Expect.due("where", 0, x.where(0));
    }

    static void steeredTriesBeginAnewAtAnotherPlace() {
        RoamBooks x = Scene.steered();
        x.reach(1, 7);
        x.attach(0, 2);
        x.attach(0, 2);
        x.move(0, 1);
        Expect.due("steered", 0, x.subscriberIs(0, 2));
        Expect.due("attach", 5, x.attach(0, 2));
    }

    static void steeredTriesBeginAnewAtTheSamePlace() {
        RoamBooks x = Scene.steered();
        x.attach(0, 2);
        x.attach(0, 2);
        x.move(0, 0);
        Expect.due("steered", 0, x.subscriberIs(0, 2));
        Expect.due("attach", 5, x.attach(0, 2));
    }

    static void steeredTriesOfOthersStay() {
        RoamBooks x = Scene.steered();
        x.subscriber(0, 0, 0);
        x.attach(0, 2);
        x.move(1, 1);
        Expect.due("steered", 1, x.subscriberIs(0, 2));
    }

    static void othersStayWhereTheyAre() {
        RoamBooks x = Scene.guestAndHost();
        x.move(0, 7);
        Expect.due("place", 0, x.subscriberIs(1, 1));
        Expect.due("attached", 1, x.subscriberIs(1, 0));
    }

    static void placeZeroIsTheLeastAndSevenTheGreatest() {
        RoamBooks x = Scene.one();
        x.move(0, 7);
        Expect.due("its place", 7, x.subscriberIs(0, 1));
        x.move(0, 0);
        Expect.due("its place", 0, x.subscriberIs(0, 1));
    }

    static void placeMinusOneIsNone() {
        Refused.noSuch(x -> x.move(1, -1));
    }

    static void placeEightIsNone() {
        Refused.noSuch(x -> x.move(1, 8));
    }

    static void placesFarOffAreNone() {
        Refused.noSuchFarOff((x, far) -> x.move(1, far));
    }

    static void subscriberNineIsTheGreatest() {
        RoamBooks x = Scene.ten();
        x.move(9, 3);
        Expect.due("its place", 3, x.subscriberIs(9, 1));
    }

    static void subscriberTenIsNone() {
        Refused.noSuch(Scene::ten, x -> x.move(10, 1));
    }

    static void subscriberMinusOneIsNone() {
        Refused.noSuch(x -> x.move(-1, 1));
    }

    static void subscriberNotToldYetIsNone() {
        Refused.noSuch(RoamBooks::new, x -> x.move(0, 1));
        Refused.noSuch(x -> x.move(4, 1));
    }

    static void subscribersFarOffAreNone() {
        Refused.noSuchFarOff((x, far) -> x.move(far, 1));
    }
}
