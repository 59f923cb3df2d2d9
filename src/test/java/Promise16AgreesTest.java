/** Promise 16: agrees. */
public final class Promise16AgreesTest {
    private Promise16AgreesTest() {
    }

    public static void main(String[] args) {
        Cases.run(Promise16AgreesTest.class);
    }

    // Attached to 1, while the note has 0, and both books have it.
    private static RoamBooks inTwoBooks() {
        RoamBooks x = Scene.oneWhoMayRoam();
        x.attach(0, 0);
        x.lose(1, 1);
        x.attach(0, 1);
        return x;
    }

    static void attachedToNoneAndInNoBookAllAgrees() {
        RoamBooks x = Scene.one();
        Expect.due("agrees", true, x.agrees(0));
    }

    static void attachedToNoneAndInABookItDoesNot() {
        RoamBooks x = Scene.one();
        x.attach(0, 0);
        x.off(0);
        Expect.due("agrees", false, x.agrees(0));
    }

    static void attachedToNoneTheNoteDoesNotMatter() {
        RoamBooks x = Scene.one();
        x.attach(0, 0);
        x.off(0);
        x.crash(0);
        Expect.due("where", 0, x.where(0));
        Expect.due("agrees", true, x.agrees(0));
    }

    static void attachedInItsBookAloneAndNotedAllAgrees() {
        RoamBooks x = Scene.oneWhoMayRoam();
        x.attach(0, 0);
        Expect.due("at home", true, x.agrees(0));
        x.attach(0, 2);
        Expect.due("abroad", true, x.agrees(0));
    }

    static void attachedAndNotInItsBookItDoesNot() {
        RoamBooks x = Scene.one();
        x.attach(0, 0);
        x.crash(0);
        Expect.due("agrees", false, x.agrees(0));
    }

    static void inAnotherBookTooItDoesNot() {
        RoamBooks x = Scene.oneWhoMayRoam();
        x.attach(0, 0);
        x.lose(1, 1);
        x.attach(0, 1);
        x.attach(0, 0);
        Expect.due("where", 0, x.where(0));
        Expect.due("in its book", 0, x.contact(0, 0));
        Expect.due("in another book", 0, x.contact(1, 0));
        Expect.due("agrees", false, x.agrees(0));
    }

    static void inAnotherBookAloneItDoesNot() {
        RoamBooks x = inTwoBooks();
        x.crash(1);
        Expect.due("agrees", false, x.agrees(0));
    }

    static void withAnotherNoteItDoesNot() {
        RoamBooks x = inTwoBooks();
        x.crash(0);
        Expect.due("in its book", 0, x.contact(1, 0));
        Expect.due("agrees", false, x.agrees(0));
    }

    static void withNoNoteItDoesNot() {
        RoamBooks x = Scene.one();
        x.lose(0, 1);
        x.attach(0, 0);
        Expect.due("where", RoamBooks.NONE, x.where(0));
        Expect.due("agrees", false, x.agrees(0));
    }

    static void aNewHourHealsIt() {
        RoamBooks x = inTwoBooks();
        x.pass(59);
        Expect.due("before the hour", false, x.agrees(0));
        x.pass(1);
        Expect.due("with the hour", true, x.agrees(0));
        Expect.due("in the old book", RoamBooks.NONE, x.contact(0, 0));
    }

    static void whoIsOffIsHealedByTime() {
        RoamBooks x = Scene.one();
        x.attach(0, 0);
        x.off(0);
        x.pass(179);
        Expect.due("in minute 179", false, x.agrees(0));
        x.pass(1);
        Expect.due("in minute 180", true, x.agrees(0));
    }

    static void networkFiveIsLookedAtToo() {
        RoamBooks x = Scene.receiving(33);
        x.subscriber(0, 0, 0);
        x.agree(0, 5, 0, 1, 0, 0, 0);
        x.attach(0, 5);
        x.lose(0, 1);
        x.attach(0, 0);
        Expect.due("agrees", false, x.agrees(0));
    }

    static void subscriberNineIsTheGreatest() {
        RoamBooks x = Scene.ten();
        x.attach(9, 0);
        x.crash(0);
        Expect.due("agrees", false, x.agrees(9));
        Expect.due("about another one", true, x.agrees(8));
    }

    static void subscriberTenIsNone() {
        Refused.noSuch(Scene::ten, x -> x.agrees(10));
    }

    static void subscriberMinusOneIsNone() {
        Refused.noSuch(x -> x.agrees(-1));
    }

    static void subscriberNotToldYetIsNone() {
        Refused.noSuch(RoamBooks::new, x -> x.agrees(0));
        Refused.noSuch(x -> x.agrees(4));
    }

    static void subscribersFarOffAreNone() {
        Refused.noSuchFarOff((x, far) -> x.agrees(far));
    }
}
