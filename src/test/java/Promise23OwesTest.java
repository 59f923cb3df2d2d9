/** Promise 23: owes. */
public final class Promise23OwesTest {
    private static final Owed OWED = new Owed((x, home, visited) -> x.owes(home, visited));

    private Promise23OwesTest() {
    }

    public static void main(String[] args) {
        Cases.run(Promise23OwesTest.class);
    }

    static void atFirstItIsNothing() {
        OWED.nothingAtFirst();
    }

    static void beforeAFileIsTakenItIsNothing() {
        OWED.nothingBeforeAFileIsTaken();
    }

    static void itIsTheSumOfAllFilesTaken() {
        OWED.sumOfAllFilesTaken();
    }

    static void oneBelowTheThresholdItIsByThePrice() {
        OWED.belowTheThreshold();
    }

    static void fromTheThresholdOnItIsByTheLowerPrice() {
        OWED.fromTheThresholdOn();
    }

    static void theThresholdIsComeToWithinOneFile() {
        OWED.thresholdWithinOneFile();
    }

    static void thresholdZeroIsNone() {
        OWED.thresholdZeroIsNone();
    }

    static void thresholdOneIsTheLeast() {
        OWED.thresholdOne();
    }

    static void threshold9999IsTheGreatest() {
        OWED.threshold9999();
    }

    static void whatIsFiledDoesNotCountForTheThreshold() {
        OWED.whatIsFiledDoesNotCountForTheThreshold();
    }

    static void whatIsSentBackDoesNotCount() {
        OWED.whatIsSentBackDoesNotCount();
    }

    static void whatOthersRecordDoesNotCount() {
        OWED.whatOthersRecordDoesNotCount();
    }

    static void withoutAnAgreementItIsNothing() {
        OWED.withoutAnAgreementNothing();
    }

    static void minutesWithoutAnAgreementCountForTheThreshold() {
        OWED.minutesWithoutAnAgreementCountForTheThreshold();
    }

    static void agreementsToldLaterDoNotReachBack() {
        OWED.agreementsToldLaterDoNotReachBack();
    }

    static void oneToldLaterForAMinuteWithoutDoesNotReachBack() {
        OWED.oneToldLaterForAMinuteWithoutDoesNotReachBack();
    }

    static void whatHoldsWhenItIsTakenDoesNotMatter() {
        OWED.whatHoldsWhenItIsTakenDoesNotMatter();
    }

    static void eachRecordHasTheThresholdOfItsOwnAgreement() {
        OWED.eachRecordHasTheThresholdOfItsOwnAgreement();
    }

    static void theMostThatCanBeOwedIsAll() {
        OWED.theMostThatCanBeOwed();
    }

    static void ofOneNetworkAloneItIsNothing() {
        OWED.ofOneNetworkAloneNothing();
    }

    static void networksZeroAndFiveAreLeastAndGreatest() {
        OWED.networksZeroAndFive();
    }

    static void homeMinusOneIsNone() {
        OWED.noSuchHome(-1);
    }

    static void homeSixIsNone() {
        OWED.noSuchHome(6);
    }

    static void homeFarBelowIsNone() {
        OWED.noSuchHome(Integer.MIN_VALUE);
    }

    static void homeFarAboveIsNone() {
        OWED.noSuchHome(Integer.MAX_VALUE);
    }

    static void visitedMinusOneIsNone() {
        OWED.noSuchVisited(-1);
    }

    static void visitedSixIsNone() {
        OWED.noSuchVisited(6);
    }

    static void visitedFarBelowIsNone() {
        OWED.noSuchVisited(Integer.MIN_VALUE);
    }

    static void visitedFarAboveIsNone() {
        OWED.noSuchVisited(Integer.MAX_VALUE);
    }
}
