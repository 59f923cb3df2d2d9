/** Promise 25: recorded. */
public final class Promise25RecordedTest {
    private Promise25RecordedTest() {
    }

    public static void main(String[] args) {
        Cases.run(Promise25RecordedTest.class);
    }

    private static void due(RoamBooks x, int notFiled, int filed, int taken, int sentBack) {
        int[] want = {notFiled, filed, taken, sentBack};
        for (int what = 0; what < 4; what++) {
            Expect.due("what " + what, want[what], x.recorded(1, 0, what));
        }
    }

    static void atFirstThereAreNone() {
        due(new RoamBooks(), 0, 0, 0, 0);
    }

    static void aCallIsNotFiled() {
        RoamBooks x = Scene.talkers();
        Scene.talk(x, 5);
        Scene.talk(x, 2);
        due(x, 7, 0, 0, 0);
    }

    static void aFileIsNotTaken() {
        RoamBooks x = Scene.talkers();
        Scene.talkAndFile(x, 5);
        Scene.talk(x, 2);
        due(x, 2, 5, 0, 0);
    }

    static void aDeliveredFileIsTaken() {
        RoamBooks x = Scene.talkers();
        Scene.talkAndDeliver(x, 5);
        Scene.talkAndFile(x, 2);
        Scene.talk(x, 1);
        due(x, 1, 2, 5, 0);
    }

    static void oldRecordsAreSentBackByADeliveryAlone() {
        RoamBooks x = Scene.talkers();
        Scene.talkAndFile(x, 5);
        x.pass(50000);
        due(x, 0, 5, 0, 0);
        x.deliver(1, 0, 0);
        due(x, 0, 0, 0, 5);
    }

    static void whatWasSentBackStaysSo() {
        RoamBooks x = Scene.talkers();
        Scene.talkAndFile(x, 5);
        x.pass(43200);
        x.deliver(1, 0, 0);
        Scene.talkAndDeliver(x, 2);
        due(x, 0, 0, 2, 5);
    }

    static void theyAreThoseOfBothThatWayRoundAlone() {
        RoamBooks x = Scene.talkers();
        Scene.talk(x, 5);
        Expect.due("the other way round", 0, x.recorded(0, 1, 0));
        Expect.due("of another home", 0, x.recorded(1, 2, 0));
        Expect.due("by another network", 0, x.recorded(2, 0, 0));
        Expect.due("of one network", 0, x.recorded(1, 1, 0));
    }

    static void ofTheMostThatCanBeRecordedTheyAreAll() {
        RoamBooks x = Scene.allThatTwoGuestsCanTalk();
        due(x, 200 * 600 * 2, 0, 0, 0);
    }

    static void whatMinusOneIsOutOfRange() {
        Refused.outOfRange(x -> x.recorded(1, 0, -1));
    }

    static void whatFourIsOutOfRange() {
        Refused.outOfRange(x -> x.recorded(1, 0, 4));
    }

    static void whatFarOffIsOutOfRange() {
        Refused.outOfRangeFarOff((x, far) -> x.recorded(1, 0, far));
    }

    static void networksAreLookedAtBeforeWhat() {
        Refused.noSuch(x -> x.recorded(6, 0, 4));
        Refused.noSuch(x -> x.recorded(0, -1, -1));
    }

    static void networksZeroAndFiveAreLeastAndGreatest() {
        RoamBooks x = Scene.zeroAndFive();
        x.attach(1, 5);
        x.call(0, 1, 60);
        Expect.due("by 5 for 0", 2, x.recorded(5, 0, 0));
        Expect.due("by 0 for 5", 1, x.recorded(0, 5, 0));
    }

    static void visitedMinusOneIsNone() {
        Refused.noSuch(x -> x.recorded(-1, 0, 0));
    }

    static void visitedSixIsNone() {
        Refused.noSuch(x -> x.recorded(6, 0, 0));
    }

    static void visitedFarOffIsNone() {
        Refused.noSuchFarOff((x, far) -> x.recorded(far, 0, 0));
    }

    static void homeMinusOneIsNone() {
        Refused.noSuch(x -> x.recorded(1, -1, 0));
    }

    static void homeSixIsNone() {
        Refused.noSuch(x -> x.recorded(1, 6, 0));
    }

    static void homesFarOffAreNone() {
        Refused.noSuchFarOff((x, far) -> x.recorded(1, far, 0));
    }
}
