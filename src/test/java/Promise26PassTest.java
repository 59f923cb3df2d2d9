/** Promise 26: pass. */
public final class Promise26PassTest {
    private Promise26PassTest() {
    }

    public static void main(String[] args) {
        Cases.run(Promise26PassTest.class);
    }

    private static RoamBooks inTheLastMinute() {
        RoamBooks x = Scene.busy();
        Scene.passTo(x, 61, Scene.LAST_MINUTE);
        return x;
    }

    static void returnsTheMinuteThen() {
        RoamBooks x = new RoamBooks();
        Expect.due("pass", 7, x.pass(7));
        Expect.due("pass", 20, x.pass(13));
    }

    static void oneIsTheLeast() {
        RoamBooks x = new RoamBooks();
        Expect.due("pass", 1, x.pass(1));
    }

    static void the50000AreTheGreatest() {
        RoamBooks x = new RoamBooks();
        Expect.due("pass", 50000, x.pass(50000));
    }

    static void zeroIsOutOfRange() {
        Refused.outOfRange(x -> x.pass(0));
    }

    static void minusOneIsOutOfRange() {
        Refused.outOfRange(x -> x.pass(-1));
    }

    static void the50001AreOutOfRange() {
        Refused.outOfRange(x -> x.pass(50001));
    }

    static void minutesFarOffAreOutOfRange() {
        Refused.outOfRangeFarOff((x, far) -> x.pass(far));
    }

    static void theLastMinuteIs999999() {
        RoamBooks x = new RoamBooks();
        Scene.passTo(x, 0, 999998);
        Expect.due("pass", 999999, x.pass(1));
    }

    static void aboveTheLastMinuteItIsRefused() {
        Refused.notNow(Promise26PassTest::inTheLastMinute, x -> x.pass(1));
    }

    static void oneAboveTheLastMinuteItIsRefused() {
        RoamBooks x = Scene.one();
        Scene.passTo(x, 0, 950000);
        x.attach(0, 0);
        Expect.notNow("to minute 1000000", () -> x.pass(50000));
        Expect.due("no hour has begun", 950000, x.contact(0, 0));
        Expect.due("to minute 999999", 999999, x.pass(49999));
        Expect.due("the last hour has begun", 999960, x.contact(0, 0));
    }

    static void theRangeIsLookedAtBeforeTheLastMinute() {
        Refused.outOfRange(Promise26PassTest::inTheLastMinute, x -> x.pass(50001));
        Refused.outOfRange(Promise26PassTest::inTheLastMinute, x -> x.pass(0));
    }

    static void anHourBeginsWithTheMinuteThat60Divides() {
        RoamBooks x = Scene.one();
        x.pass(1);
        x.attach(0, 0);
        x.pass(58);
        Expect.due("in minute 59", 1, x.contact(0, 0));
        x.pass(1);
        Expect.due("in minute 60", 60, x.contact(0, 0));
    }

    static void anHourBeginsThoughItIsPassedOver() {
        RoamBooks x = Scene.one();
        x.attach(0, 0);
        x.pass(119);
        Expect.due("in minute 119", 60, x.contact(0, 0));
    }

    static void anHourThatHasBegunDoesNotBeginAgain() {
        RoamBooks x = Scene.guestAndHost();
        x.pass(60);
        x.lose(1, 5);
        x.pass(59);
        Expect.due("left", 5, x.lose(1, 0));
    }

    static void minuteZeroDoesNotBeginAgain() {
        RoamBooks x = Scene.guestAndHost();
        x.lose(1, 5);
        x.pass(59);
        Expect.due("left", 5, x.lose(1, 0));
    }

    static void eachHourPassedOverSendsItsNotices() {
        RoamBooks x = Scene.one();
        x.attach(0, 0);
        x.lose(0, 9);
        x.pass(8 * 60);
        Expect.due("after 8 hours", 1, x.lose(0, 9));
        x.pass(9 * 60);
        Expect.due("after 9 hours", 0, x.lose(0, 9));
        x.pass(50000);
        Expect.due("after many hours", 0, x.lose(0, 0));
    }

    static void lostNoticesOfManyHoursAreComeOver() {
        for (int hours = 8; hours <= 14; hours++) {
            RoamBooks x = Scene.oneWhoMayRoam();
            x.attach(0, 0);
            x.lose(1, 1);
            x.attach(0, 1);
            x.lose(1, 9);
            x.pass(hours * 60);
            Expect.due("where after " + hours + " hours", hours < 10 ? 0 : 1, x.where(0));
            Expect.due("contact after " + hours + " hours", hours * 60, x.contact(1, 0));
        }
    }

    static void oncePassedIsLikePassedMinuteByMinute() {
        for (int minutes = 1; minutes <= 400; minutes += 7) {
            RoamBooks once = Scene.busy();
            RoamBooks often = Scene.busy();
            once.pass(minutes);
            for (int i = 0; i < minutes; i += 7) {
                often.pass(Math.min(7, minutes - i));
            }
            Expect.due("after " + minutes, Everything.of(often).toString(), Everything.of(once).toString());
        }
    }

    static void aMonthBeginsWithMinute43200() {
        RoamBooks x = Scene.guestAndHost();
        Scene.talk(x, 1);
        x.pass(43199);
        Expect.due("in minute 43199", 50, x.subscriberIs(0, 4));
        x.pass(1);
        Expect.due("in minute 43200", 0, x.subscriberIs(0, 4));
    }

    static void aMonthBeginsThoughItIsPassedOver() {
        RoamBooks x = Scene.guestAndHost();
        Scene.talk(x, 1);
        x.pass(50000);
        Expect.due("in minute 50000", 0, x.subscriberIs(0, 4));
    }

    static void theLastMonthBeginsWithMinute993600() {
        RoamBooks x = Scene.guestAndHost();
        Scene.passTo(x, 0, 993599);
        Scene.talk(x, 1);
        Expect.due("in minute 993599", 50, x.subscriberIs(0, 4));
        x.pass(1);
        Expect.due("in minute 993600", 0, x.subscriberIs(0, 4));
        Scene.talk(x, 1);
        x.pass(6399);
        Expect.due("in minute 999999", 50, x.subscriberIs(0, 4));
    }
}
