/** Promise 21: file. */
public final class Promise21FileTest {
    private Promise21FileTest() {
    }

    public static void main(String[] args) {
        Cases.run(Promise21FileTest.class);
    }

    private static RoamBooks with20Files(boolean oneMoreRecord) {
        RoamBooks x = Scene.talkers();
        for (int i = 0; i < 20; i++) {
            Scene.talkAndFile(x, 1);
        }
        if (oneMoreRecord) {
            Scene.talk(x, 1);
        }
        return x;
    }

    static void theFirstIsZeroAndTheNextOne() {
        RoamBooks x = Scene.talkers();
        Scene.talk(x, 1);
        Expect.due("the first", 0, x.file(1, 0));
        Scene.talk(x, 1);
        Expect.due("the next", 1, x.file(1, 0));
    }

    static void withoutAnyRecordItIsRefused() {
        Refused.notNow(RoamBooks::new, x -> x.file(1, 0));
        Refused.notNow(Scene::talkers, x -> x.file(1, 0));
    }

    static void withAllRecordsFiledItIsRefused() {
        Refused.notNow(() -> {
            RoamBooks x = Scene.talkers();
            Scene.talkAndFile(x, 2);
            return x;
        }, x -> x.file(1, 0));
    }

    static void withAllRecordsTakenItIsRefused() {
        Refused.notNow(() -> {
            RoamBooks x = Scene.talkers();
            Scene.talkAndDeliver(x, 2);
            return x;
        }, x -> x.file(1, 0));
    }

    static void whatWasSentBackIsNotFiledAgain() {
        Refused.notNow(() -> {
            RoamBooks x = Scene.talkers();
            Scene.talkAndFile(x, 2);
            x.pass(Scene.MONTH);
            Expect.due("sent back", 1, x.deliver(1, 0, 0));
            return x;
        }, x -> x.file(1, 0));
    }

    static void theOtherWayRoundItIsRefused() {
        Refused.notNow(() -> {
            RoamBooks x = Scene.talkers();
            Scene.talk(x, 2);
            return x;
        }, x -> x.file(0, 1));
    }

    static void ofOneNetworkAloneItIsRefused() {
        Refused.notNow(Scene::busy, x -> x.file(0, 0));
        Refused.notNow(Scene::busy, x -> x.file(5, 5));
    }

    static void twentyAreAsManyAsMayBe() {
        RoamBooks x = Scene.talkers();
        for (int file = 0; file < 20; file++) {
            Expect.due("file", file, Scene.talkAndFile(x, 1));
        }
        Expect.due("filed", 20, x.recorded(1, 0, 1));
    }

    static void the21stIsRefused() {
        Refused.notNow(() -> with20Files(true), x -> x.file(1, 0));
    }

    static void the21stWithoutARecordIsRefused() {
        Refused.notNow(() -> with20Files(false), x -> x.file(1, 0));
    }

    static void the21stIsRefusedThoughTwentyWereTaken() {
        RoamBooks x = with20Files(true);
        for (int file = 0; file < 20; file++) {
            x.deliver(1, 0, file);
        }
        Expect.notNow("file", () -> x.file(1, 0));
        Expect.due("not filed", 1, x.recorded(1, 0, 0));
    }

    static void theTwentyAreThoseOfBothAlone() {
        RoamBooks x = with20Files(false);
        x.subscriber(2, 0, 0);
        x.agree(2, 1, 0, Scene.FOREVER, 0, 0, 0);
        x.attach(2, 1);
        x.call(2, 1, 60);
        Expect.due("of others", 0, x.file(1, 2));
        x.agree(1, 0, 0, Scene.FOREVER, 0, 0, 0);
        x.attach(1, 0);
        x.call(1, 2, 60);
        Expect.due("the other way round", 0, x.file(0, 1));
    }

    static void itFilesWhatIsNotFiledAlone() {
        RoamBooks x = Scene.talkers();
        Scene.talkAndFile(x, 2);
        Scene.talk(x, 4);
        Scene.talk(x, 8);
        x.file(1, 0);
        x.deliver(1, 0, 0);
        Expect.due("taken by the first", 2, x.recorded(1, 0, 2));
        x.deliver(1, 0, 1);
        Expect.due("taken by both", 14, x.recorded(1, 0, 2));
    }

    static void oldRecordsAreFiledStill() {
        RoamBooks x = Scene.talkers();
        Scene.talk(x, 2);
        x.pass(50000);
        Expect.due("file", 0, x.file(1, 0));
        Expect.due("filed", 2, x.recorded(1, 0, 1));
    }

    static void networksZeroAndFiveAreLeastAndGreatest() {
        RoamBooks x = Scene.zeroAndFive();
        Expect.due("5 for 0", 0, x.file(5, 0));
        Expect.due("0 for 5", 0, x.file(0, 5));
    }

    static void visitedMinusOneIsNone() {
        Refused.noSuch(x -> x.file(-1, 0));
    }

    static void visitedSixIsNone() {
        Refused.noSuch(x -> x.file(6, 0));
    }

    static void visitedFarOffIsNone() {
        Refused.noSuchFarOff((x, far) -> x.file(far, 0));
    }

    static void homeMinusOneIsNone() {
        Refused.noSuch(x -> x.file(1, -1));
    }

    static void homeSixIsNone() {
        Refused.noSuch(x -> x.file(1, 6));
    }

    static void homesFarOffAreNone() {
        Refused.noSuchFarOff((x, far) -> x.file(1, far));
    }

    static void networksAreLookedAtBeforeThatThereAre20() {
        Refused.noSuch(() -> with20Files(true), x -> x.file(1, 6));
        Refused.noSuch(() -> with20Files(true), x -> x.file(6, 0));
    }
}
