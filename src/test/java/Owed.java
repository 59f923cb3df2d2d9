/** Cases of what a home owes: owes and owesAnew promise the same, so that both are asked by them. */
final class Owed {
    interface Asked {
        int of(RoamBooks x, int home, int visited);
    }

    private final Asked asked;

    Owed(Asked asked) {
        this.asked = asked;
    }

    private void due(String when, int want, RoamBooks x) {
        Expect.due(when, want, asked.of(x, 0, 1));
    }

    void atFirstItIsNothing() {
        due("a new object", 0, new RoamBooks());
    }

    void beforeAFileIsTakenItIsNothing() {
        RoamBooks x = Scene.talkers(5, 0, 5);
        Scene.talk(x, 3);
        due("not filed", 0, x);
        x.file(1, 0);
        due("filed", 0, x);
        x.deliver(1, 0, 0);
        due("taken", 15, x);
    }

    void itIsTheSumOfAllFilesTaken() {
        RoamBooks x = Scene.talkers(5, 0, 5);
        int due = 0;
        for (int file = 0; file < 20; file++) {
            Scene.talkAndDeliver(x, file + 1);
            due += 5 * (file + 1);
            due("file " + file, due, x);
        }
    }

    void oneBelowTheThresholdItIsByThePrice() {
        RoamBooks x = Scene.talkers(5, 10, 2);
        Scene.talkAndDeliver(x, 9);
        due("9 of 10", 45, x);
    }

    void fromTheThresholdOnItIsByTheLowerPrice() {
        RoamBooks x = Scene.talkers(5, 10, 2);
        Scene.talkAndDeliver(x, 9);
        Scene.talkAndDeliver(x, 1);
        due("10 of 10, from the first minute", 20, x);
        Scene.talkAndDeliver(x, 1);
        due("11 of 10", 22, x);
    }

    void theThresholdIsComeToWithinOneFile() {
        RoamBooks x = Scene.talkers(5, 10, 2);
        Scene.talk(x, 4);
        Scene.talk(x, 6);
        due("not filed", 0, x);
        x.file(1, 0);
        x.deliver(1, 0, 0);
        due("10 of 10", 20, x);
    }

    void thresholdZeroIsNone() {
        RoamBooks x = Scene.talkers(5, 0, 2);
        Scene.talkAndDeliver(x, 600);
        due("no threshold", 3000, x);
    }

    void thresholdOneIsTheLeast() {
        RoamBooks x = Scene.talkers(5, 1, 2);
        due("nothing taken", 0, x);
        Scene.talkAndDeliver(x, 1);
        due("1 of 1", 2, x);
    }

    void threshold9999IsTheGreatest() {
        RoamBooks x = Scene.talkers(5, 9999, 2);
        for (int i = 0; i < 16; i++) {
            Scene.talk(x, 600);
        }
        Scene.talk(x, 398);
        x.file(1, 0);
        x.deliver(1, 0, 0);
        due("9998 of 9999", 9998 * 5, x);
        Scene.talkAndDeliver(x, 1);
        due("9999 of 9999", 9999 * 2, x);
    }

    void whatIsFiledDoesNotCountForTheThreshold() {
        RoamBooks x = Scene.talkers(5, 10, 2);
        Scene.talkAndDeliver(x, 9);
        Scene.talk(x, 1);
        due("10 made", 45, x);
        x.file(1, 0);
        due("10 filed", 45, x);
    }

    void whatIsSentBackDoesNotCount() {
        RoamBooks x = Scene.talkers(5, 10, 2);
        Scene.talkAndFile(x, 9);
        x.pass(43200);
        Expect.due("sent back", 1, x.deliver(1, 0, 0));
        due("all sent back", 0, x);
        Scene.talkAndDeliver(x, 9);
        due("9 of 10", 45, x);
    }

    void whatOthersRecordDoesNotCount() {
        RoamBooks x = Scene.talkers(5, 10, 2);
        x.agree(1, 0, 0, Scene.FOREVER, 4, 0, 4);
        x.agree(2, 1, 0, Scene.FOREVER, 3, 0, 3);
        x.attach(x.subscriber(2, 0, 0), 1);
        x.call(2, 1, 600);
        Scene.talkAndDeliver(x, 9);
        x.attach(1, 0);
        x.call(1, 2, 600);
        x.file(1, 2);
        x.deliver(1, 2, 0);
        x.file(0, 1);
        x.deliver(0, 1, 0);
        due("9 of 10", 45, x);
        Expect.due("the other way round", 40, asked.of(x, 1, 0));
        Expect.due("another home", 60, asked.of(x, 2, 1));
    }

    void withoutAnAgreementItIsNothing() {
        RoamBooks x = withoutAgreementFrom(10);
        Scene.talkAndDeliver(x, 4);
        due("it held", 20, x);
        x.pass(1);
        Scene.talkAndDeliver(x, 5);
        due("it did not hold", 20, x);
    }

    void minutesWithoutAnAgreementCountForTheThreshold() {
        RoamBooks x = withoutAgreementFrom(10);
        Scene.talkAndDeliver(x, 4);
        x.pass(1);
        Scene.talkAndDeliver(x, 6);
        due("10 of 10", 8, x);
    }

    // An agreement with a threshold of 10 minutes, in the last minute that it holds.
    private static RoamBooks withoutAgreementFrom(int minute) {
        RoamBooks x = Scene.one();
        x.subscriber(1, 0, 0);
        x.agree(0, 1, 0, minute, 5, 10, 2);
        x.cap(0, 0, true);
        x.attach(0, 1);
        x.attach(1, 1);
        x.pass(minute - 1);
        return x;
    }

    void agreementsToldLaterDoNotReachBack() {
        RoamBooks x = Scene.talkers(5, 0, 5);
        Scene.talk(x, 1);
        x.agree(0, 1, 0, Scene.FOREVER, 9, 0, 9);
        x.file(1, 0);
        x.agree(0, 1, 0, Scene.FOREVER, 8, 0, 8);
        x.deliver(1, 0, 0);
        x.agree(0, 1, 0, Scene.FOREVER, 7, 0, 7);
        due("made before them", 5, x);
        Scene.talkAndDeliver(x, 1);
        due("made after them", 12, x);
    }

    void oneToldLaterForAMinuteWithoutDoesNotReachBack() {
        RoamBooks x = withoutAgreementFrom(10);
        x.pass(1);
        Scene.talk(x, 1);
        x.agree(0, 1, 0, Scene.FOREVER, 9, 0, 9);
        x.file(1, 0);
        x.deliver(1, 0, 0);
        due("none held", 0, x);
    }

    void whatHoldsWhenItIsTakenDoesNotMatter() {
        RoamBooks x = withoutAgreementFrom(10);
        Scene.talk(x, 1);
        x.pass(1);
        x.file(1, 0);
        x.deliver(1, 0, 0);
        due("it held when it was made", 5, x);
    }

    void eachRecordHasTheThresholdOfItsOwnAgreement() {
        RoamBooks x = Scene.talkers(9, 6, 1);
        Scene.talk(x, 2);
        x.agree(0, 1, 0, Scene.FOREVER, 20, 7, 10);
        Scene.talk(x, 2);
        x.agree(0, 1, 0, Scene.FOREVER, 50, 0, 0);
        Scene.talk(x, 2);
        x.file(1, 0);
        x.deliver(1, 0, 0);
        due("6 minutes", 2 + 40 + 100, x);
        Scene.talkAndDeliver(x, 1);
        due("7 minutes", 2 + 20 + 150, x);
    }

    void theMostThatCanBeOwedIsAll() {
        RoamBooks x = Scene.allThatTwoGuestsCanTalk();
        x.file(1, 0);
        x.deliver(1, 0, 0);
        due("200 calls of 600 minutes for both", 200 * 600 * 2 * 99, x);
    }

    void ofOneNetworkAloneItIsNothing() {
        for (int network = 0; network < 6; network++) {
            Expect.due("itself", 0, asked.of(Scene.busy(), network, network));
        }
    }

    void networksZeroAndFiveAreLeastAndGreatest() {
        RoamBooks x = Scene.zeroAndFive();
        x.file(5, 0);
        x.file(0, 5);
        x.deliver(5, 0, 0);
        x.deliver(0, 5, 0);
        Expect.due("0 to 5", 3, asked.of(x, 0, 5));
        Expect.due("5 to 0", 4, asked.of(x, 5, 0));
    }

    void homeMinusOneIsNone() {
        Refused.noSuch(x -> asked.of(x, -1, 1));
    }

    void homeSixIsNone() {
        Refused.noSuch(x -> asked.of(x, 6, 1));
    }

    void homesFarOffAreNone() {
        Refused.noSuchFarOff((x, far) -> asked.of(x, far, 1));
    }

    void visitedMinusOneIsNone() {
        Refused.noSuch(x -> asked.of(x, 0, -1));
    }

    void visitedSixIsNone() {
        Refused.noSuch(x -> asked.of(x, 0, 6));
    }

    void visitedFarOffIsNone() {
        Refused.noSuchFarOff((x, far) -> asked.of(x, 0, far));
    }
}
