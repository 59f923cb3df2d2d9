/** Promise 14: where. */
public final class Promise14WhereTest {
    private Promise14WhereTest() {
    }

    public static void main(String[] args) {
        Cases.run(Promise14WhereTest.class);
    }

    static void atFirstThereIsNone() {
        RoamBooks x = Scene.one();
        Expect.due("where", RoamBooks.NONE, x.where(0));
    }

    static void aTryThatFailsNotesNothing() {
        RoamBooks x = Scene.one();
        x.attach(0, 1);
        Expect.due("where", RoamBooks.NONE, x.where(0));
    }

    static void anAttachIsNoted() {
        RoamBooks x = Scene.oneWhoMayRoam();
        x.attach(0, 0);
        Expect.due("at home", 0, x.where(0));
        x.attach(0, 2);
        Expect.due("abroad", 2, x.where(0));
    }

    static void aLostNoticeIsNotNotedUntilTheNextHour() {
        RoamBooks x = Scene.oneWhoMayRoam();
        x.attach(0, 0);
        x.lose(2, 1);
        x.attach(0, 2);
        x.pass(59);
        Expect.due("before the hour", 0, x.where(0));
        x.pass(1);
        Expect.due("with the hour", 2, x.where(0));
    }

    static void itStaysWhoeverIsDetached() {
        RoamBooks x = Scene.oneWhoMayRoam();
        x.attach(0, 2);
        x.crash(2);
        Expect.due("after a crash", 2, x.where(0));
        x.off(0);
        Expect.due("off", 2, x.where(0));
        x.dead(2, true);
        Expect.due("dead", 2, x.where(0));
        x.reach(0, 0);
        Expect.due("not received", 2, x.where(0));
        x.pass(50000);
        Expect.due("out of each book", 2, x.where(0));
    }

    static void subscriberNineIsTheGreatest() {
        RoamBooks x = Scene.ten();
        x.attach(9, 0);
        Expect.due("where", 0, x.where(9));
        Expect.due("where another is", RoamBooks.NONE, x.where(8));
    }

    static void subscriberTenIsNone() {
        Refused.noSuch(Scene::ten, x -> x.where(10));
    }

    static void subscriberMinusOneIsNone() {
        Refused.noSuch(x -> x.where(-1));
    }

    static void subscriberNotToldYetIsNone() {
        Refused.noSuch(RoamBooks::new, x -> x.where(0));
        Refused.noSuch(x -> x.where(4));
    }

    static void subscribersFarOffAreNone() {
        Refused.noSuchFarOff((x, far) -> x.where(far));
    }
}
