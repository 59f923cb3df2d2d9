/** Promise 22: deliver. */
public final class Promise22DeliverTest {
    private Promise22DeliverTest() {
    }

    public static void main(String[] args) {
        Cases.run(Promise22DeliverTest.class);
    }

    private static RoamBooks withFiles(int files) {
        RoamBooks x = Scene.talkers();
        for (int i = 0; i < files; i++) {
            Scene.talkAndFile(x, 1 << i);
        }
        return x;
    }

    static void theFirstIsTakenFirst() {
        RoamBooks x = withFiles(3);
        Expect.due("deliver", 0, x.deliver(1, 0, 0));
        Expect.due("taken", 1, x.recorded(1, 0, 2));
        Expect.due("not taken", 6, x.recorded(1, 0, 1));
    }

    static void oneTakenAheadIsRefused() {
        RoamBooks x = withFiles(3);
        x.deliver(1, 0, 0);
        Expect.due("deliver", RoamBooks.NONE, x.deliver(1, 0, 0));
        x.deliver(1, 0, 1);
        Expect.due("the first", RoamBooks.NONE, x.deliver(1, 0, 0));
        Expect.due("the second", RoamBooks.NONE, x.deliver(1, 0, 1));
        Expect.due("taken once", 3, x.recorded(1, 0, 2));
    }

    static void oneWithALowerNumberNotYetTakenIsRefused() {
        RoamBooks x = withFiles(3);
        Expect.due("one lower", -2, x.deliver(1, 0, 1));
        Expect.due("two lower", -2, x.deliver(1, 0, 2));
        x.deliver(1, 0, 0);
        Expect.due("one lower still", -2, x.deliver(1, 0, 2));
        Expect.due("none lower", 0, x.deliver(1, 0, 1));
        Expect.due("none lower then", 0, x.deliver(1, 0, 2));
    }

    static void oneRefusedIsNotTaken() {
        RoamBooks x = withFiles(2);
        x.deliver(1, 0, 1);
        Expect.due("taken", 0, x.recorded(1, 0, 2));
        Expect.due("sent back", 0, x.recorded(1, 0, 3));
        Expect.due("filed", 3, x.recorded(1, 0, 1));
        Expect.due("owes", 0, x.owes(0, 1));
    }

    static void anOldOneRefusedSendsNothingBack() {
        RoamBooks x = withFiles(2);
        x.pass(Scene.MONTH);
        Expect.due("deliver", -2, x.deliver(1, 0, 1));
        Expect.due("sent back", 0, x.recorded(1, 0, 3));
        Expect.due("filed", 3, x.recorded(1, 0, 1));
    }

    static void file19IsTheGreatest() {
        RoamBooks x = Scene.talkers();
        for (int file = 0; file < 20; file++) {
            Scene.talkAndFile(x, 1);
        }
        for (int file = 0; file < 20; file++) {
            Expect.due("deliver", 0, x.deliver(1, 0, file));
        }
        Expect.due("taken", 20, x.recorded(1, 0, 2));
        Expect.noSuch("file 20", () -> x.deliver(1, 0, 20));
    }

    static void file0IsNoneWhereNoneIsFiled() {
        Refused.noSuch(RoamBooks::new, x -> x.deliver(1, 0, 0));
        Refused.noSuch(() -> {
            RoamBooks x = Scene.talkers();
            Scene.talk(x, 1);
            return x;
        }, x -> x.deliver(1, 0, 0));
    }

    static void fileMinusOneIsNone() {
        Refused.noSuch(() -> withFiles(2), x -> x.deliver(1, 0, -1));
    }

    static void theFileAfterTheLastIsNone() {
        Refused.noSuch(() -> withFiles(2), x -> x.deliver(1, 0, 2));
    }

    static void theOtherWayRoundIsNone() {
        Refused.noSuch(() -> withFiles(2), x -> x.deliver(0, 1, 0));
    }

    static void ofOneNetworkAloneIsNone() {
        Refused.noSuch(x -> x.deliver(1, 1, 0));
    }

    static void filesFarOffAreNone() {
        Refused.noSuchFarOff((x, far) -> x.deliver(1, 0, far));
    }

    static void visitedMinusOneIsNone() {
        Refused.noSuch(x -> x.deliver(-1, 0, 1));
    }

    static void visitedSixIsNone() {
        Refused.noSuch(x -> x.deliver(6, 0, 1));
    }

    static void visitedFarOffIsNone() {
        Refused.noSuchFarOff((x, far) -> x.deliver(far, 0, 1));
    }

    static void homeMinusOneIsNone() {
        Refused.noSuch(x -> x.deliver(1, -1, 1));
    }

    static void homeSixIsNone() {
        Refused.noSuch(x -> x.deliver(1, 6, 1));
    }

    static void homesFarOffAreNone() {
        Refused.noSuchFarOff((x, far) -> x.deliver(1, far, 1));
    }

    static void networksZeroAndFiveAreLeastAndGreatest() {
        RoamBooks x = Scene.zeroAndFive();
        x.file(5, 0);
        x.file(0, 5);
        Expect.due("5 for 0", 0, x.deliver(5, 0, 0));
        Expect.due("0 for 5", 0, x.deliver(0, 5, 0));
    }

    static void records43199MinutesOldAreTaken() {
        RoamBooks x = withFiles(1);
        x.pass(43199);
        Expect.due("deliver", 0, x.deliver(1, 0, 0));
        Expect.due("taken", 1, x.recorded(1, 0, 2));
    }

    static void records43200MinutesOldAreSentBack() {
        RoamBooks x = withFiles(1);
        x.pass(43200);
        Expect.due("deliver", 1, x.deliver(1, 0, 0));
        Expect.due("taken", 0, x.recorded(1, 0, 2));
        Expect.due("sent back", 1, x.recorded(1, 0, 3));
    }

    static void records43201MinutesOldAreSentBack() {
        RoamBooks x = withFiles(1);
        x.pass(43201);
        Expect.due("deliver", 1, x.deliver(1, 0, 0));
    }

    static void theMonthDoesNotMatterForTheirAge() {
        RoamBooks x = Scene.talkers();
        x.pass(43199);
        Scene.talkAndFile(x, 1);
        x.pass(43199);
        Expect.due("two months on, 43199 minutes old", 0, x.deliver(1, 0, 0));
    }

    static void theAgeIsThatOfTheRecordNotOfTheFile() {
        RoamBooks x = Scene.talkers();
        Scene.talk(x, 1);
        x.pass(43200);
        Scene.talk(x, 2);
        x.file(1, 0);
        Expect.due("deliver", 1, x.deliver(1, 0, 0));
        Expect.due("taken", 2, x.recorded(1, 0, 2));
        Expect.due("sent back", 1, x.recorded(1, 0, 3));
    }

    static void recordsAreCountedNotTheirMinutes() {
        RoamBooks x = Scene.talkers();
        Scene.talk(x, 5);
        Scene.talk(x, 6);
        Scene.talk(x, 7);
        x.file(1, 0);
        x.pass(43200);
        Expect.due("deliver", 3, x.deliver(1, 0, 0));
        Expect.due("sent back", 18, x.recorded(1, 0, 3));
    }

    static void aFileOfWhichAllIsSentBackIsTaken() {
        RoamBooks x = withFiles(2);
        x.pass(43200);
        Expect.due("deliver", 1, x.deliver(1, 0, 0));
        Expect.due("taken ahead", RoamBooks.NONE, x.deliver(1, 0, 0));
        Expect.due("the next", 1, x.deliver(1, 0, 1));
    }

    static void whatWasTakenIsNotSentBackLater() {
        RoamBooks x = withFiles(1);
        x.deliver(1, 0, 0);
        x.pass(50000);
        Expect.due("deliver", RoamBooks.NONE, x.deliver(1, 0, 0));
        Expect.due("taken", 1, x.recorded(1, 0, 2));
        Expect.due("sent back", 0, x.recorded(1, 0, 3));
    }

    static void inTheLastMinuteItIsTakenStill() {
        RoamBooks x = Scene.talkers();
        Scene.passTo(x, 0, Scene.LAST_MINUTE - 43199);
        Scene.talkAndFile(x, 1);
        x.pass(43199);
        Expect.due("deliver", 0, x.deliver(1, 0, 0));
    }
}
