/** Promise 15: contact, and how long the books keep it. */
public final class Promise15ContactTest {
    private Promise15ContactTest() {
    }

    public static void main(String[] args) {
        Cases.run(Promise15ContactTest.class);
    }

    // Attached in that minute, and off at once.
    private static RoamBooks attachedAt(int minute) {
        RoamBooks x = Scene.one();
        Scene.passTo(x, 0, minute);
        x.attach(0, 0);
        x.off(0);
        return x;
    }

    static void whoIsNotInTheBookHasNone() {
        RoamBooks x = Scene.one();
        Expect.due("never attached", RoamBooks.NONE, x.contact(0, 0));
        x.attach(0, 0);
        Expect.due("of another network", RoamBooks.NONE, x.contact(1, 0));
    }

    static void minuteZeroIsTheLeast() {
        RoamBooks x = attachedAt(0);
        Expect.due("contact", 0, x.contact(0, 0));
    }

    static void theLastMinuteIsTheGreatest() {
        RoamBooks x = attachedAt(Scene.LAST_MINUTE);
        Expect.due("contact", Scene.LAST_MINUTE, x.contact(0, 0));
    }

    static void aNewHourIsAContact() {
        RoamBooks x = Scene.one();
        x.pass(1);
        x.attach(0, 0);
        x.pass(58);
        Expect.due("in minute 59", 1, x.contact(0, 0));
        x.pass(1);
        Expect.due("in minute 60", 60, x.contact(0, 0));
        x.pass(1);
        Expect.due("in minute 61", 60, x.contact(0, 0));
        x.pass(58);
        Expect.due("in minute 119", 60, x.contact(0, 0));
        x.pass(1);
        Expect.due("in minute 120", 120, x.contact(0, 0));
    }

    static void ofManyNewHoursTheLastIsTheLatest() {
        RoamBooks x = Scene.one();
        x.attach(0, 0);
        x.pass(50000);
        Expect.due("in minute 50000", 49980, x.contact(0, 0));
        Scene.passTo(x, 50000, Scene.LAST_MINUTE);
        Expect.due("in the last minute", 999960, x.contact(0, 0));
    }

    static void whoAttachesWithTheHourHasIt() {
        RoamBooks x = attachedAt(60);
        Expect.due("contact", 60, x.contact(0, 0));
    }

    static void contact179MinutesAgoIsKept() {
        RoamBooks x = attachedAt(1);
        x.pass(179);
        Expect.due("in minute 180", 1, x.contact(0, 0));
    }

    static void contact180MinutesAgoIsTakenOut() {
        RoamBooks x = attachedAt(0);
        x.pass(180);
        Expect.due("in minute 180", RoamBooks.NONE, x.contact(0, 0));
    }

    static void contact181MinutesAgoIsTakenOut() {
        RoamBooks x = attachedAt(59);
        x.pass(181);
        Expect.due("in minute 240", RoamBooks.NONE, x.contact(0, 0));
    }

    static void betweenTheHoursAnOldContactIsKept() {
        RoamBooks x = attachedAt(1);
        x.pass(180);
        Expect.due("180 minutes ago, no hour", 1, x.contact(0, 0));
        x.pass(58);
        Expect.due("238 minutes ago, no hour", 1, x.contact(0, 0));
        x.pass(1);
        Expect.due("239 minutes ago, an hour", RoamBooks.NONE, x.contact(0, 0));
    }

    static void onceWithin180MinutesOfTheHourItIsKept() {
        RoamBooks x = attachedAt(60);
        x.pass(179);
        Expect.due("in minute 239", 60, x.contact(0, 0));
        x.pass(1);
        Expect.due("in minute 240", RoamBooks.NONE, x.contact(0, 0));
    }

    static void overManyHoursAtOnceAnOldContactIsTakenOut() {
        RoamBooks x = attachedAt(1);
        x.pass(50000);
        Expect.due("contact", RoamBooks.NONE, x.contact(0, 0));
    }

    static void anOldContactIsTakenOutOfThatBookAlone() {
        RoamBooks x = Scene.oneWhoMayRoam();
        x.attach(0, 0);
        x.lose(1, 9);
        x.attach(0, 1);
        x.pass(120);
        Expect.due("the old book keeps it", 0, x.contact(0, 0));
        x.pass(60);
        Expect.due("and loses it", RoamBooks.NONE, x.contact(0, 0));
        Expect.due("the new book keeps it", 180, x.contact(1, 0));
    }

    static void whoIsAttachedIsNotTakenOut() {
        RoamBooks x = Scene.oneWhoMayRoam();
        x.attach(0, 0);
        for (int hour = 1; hour < 9; hour++) {
            x.pass(60);
            Expect.due("contact", hour * 60, x.contact(0, 0));
        }
    }

    static void networkZeroIsTheLeastAndFiveTheGreatest() {
        RoamBooks x = Scene.receiving(33);
        x.subscriber(0, 0, 0);
        x.subscriber(5, 0, 0);
        x.pass(3);
        x.attach(0, 0);
        x.attach(1, 5);
        Expect.due("in book 0", 3, x.contact(0, 0));
        Expect.due("in book 5", 3, x.contact(5, 1));
    }

    static void networkMinusOneIsNone() {
        Refused.noSuch(x -> x.contact(-1, 0));
    }

    static void networkSixIsNone() {
        Refused.noSuch(x -> x.contact(6, 0));
    }

    static void networksFarOffAreNone() {
        Refused.noSuchFarOff((x, far) -> x.contact(far, 0));
    }

    static void subscriberNineIsTheGreatest() {
        RoamBooks x = Scene.ten();
        x.attach(9, 0);
        Expect.due("contact", 0, x.contact(0, 9));
    }

    static void subscriberTenIsNone() {
        Refused.noSuch(Scene::ten, x -> x.contact(0, 10));
    }

    static void subscriberMinusOneIsNone() {
        Refused.noSuch(x -> x.contact(0, -1));
    }

    static void subscriberNotToldYetIsNone() {
        Refused.noSuch(RoamBooks::new, x -> x.contact(0, 0));
        Refused.noSuch(x -> x.contact(0, 4));
    }

    static void subscribersFarOffAreNone() {
        Refused.noSuchFarOff((x, far) -> x.contact(0, far));
    }
}
