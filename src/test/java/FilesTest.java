/** Promises 21 to 26: files, what networks owe each other, and the passing of time. */
public final class FilesTest {
    private static final int FOREVER = 1000000;

    private FilesTest() {
    }

    public static void main(String[] args) {
        filesAreNumberedByBoth();
        fileRefusesWhatIsNotThere();
        twentyFilesAtMost();
        filesAreTakenInOrder();
        oldRecordsAreSentBack();
        anEmptiedFileIsTaken();
        deliverRefusesWrongInputs();
        thresholdsReachBackToTheFirstMinute();
        thresholdsCountWhatIsTakenAlone();
        eachRecordHasItsOwnAgreement();
        nothingIsOwedWithoutAnAgreement();
        owesRefusesWrongInputs();
        recordedRefusesWrongInputs();
        passTellsTheMinute();
        passRefusesWrongInputs();
        longPassesAreLikeManyShortOnes();
        nineLostNoticesAreComeOverInALongPass();
        Expect.end();
    }

    // Subscriber 0 is of home 0 and abroad in 1; subscriber 1 is of home 1 and at home.
    private static RoamBooks ready(int price, int threshold, int lower) {
        RoamBooks x = new RoamBooks();
        x.reach(0, 7);
        x.agree(0, 1, 0, FOREVER, price, threshold, lower);
        x.subscriber(0, 0, 0);
        x.subscriber(1, 0, 0);
        x.attach(0, 1);
        x.attach(1, 1);
        x.cap(0, 0, true);
        return x;
    }

    private static void talk(RoamBooks x, int minutes) {
        Expect.due("call", 0, x.call(0, 1, minutes * 60));
    }

    private static void filesAreNumberedByBoth() {
        RoamBooks x = ready(3, 0, 0);
        x.agree(2, 1, 0, FOREVER, 2, 0, 0);
        int guest = x.subscriber(2, 0, 0);
        x.attach(guest, 1);
        talk(x, 2);
        talk(x, 3);
        x.call(guest, 1, 60);
        Expect.due("not filed", 5, x.recorded(1, 0, 0));
        Expect.due("the first of both", 0, x.file(1, 0));
        Expect.due("filed", 5, x.recorded(1, 0, 1));
        Expect.due("none left", 0, x.recorded(1, 0, 0));
        Expect.due("another home's are not filed", 1, x.recorded(1, 2, 0));
        talk(x, 4);
        Expect.due("the second of both", 1, x.file(1, 0));
        Expect.due("the first of others", 0, x.file(1, 2));
        Expect.due("filed in two", 9, x.recorded(1, 0, 1));
        x.deliver(1, 0, 0);
        Expect.due("taken", 5, x.recorded(1, 0, 2));
        Expect.due("not taken", 4, x.recorded(1, 0, 1));
        Expect.due("owed for what was taken", 15, x.owes(0, 1));
        Expect.due("nothing the other way round", 0, x.owes(1, 0));
        Expect.due("nothing taken of the others", 0, x.owes(2, 1));
    }

    private static void fileRefusesWhatIsNotThere() {
        RoamBooks x = ready(3, 0, 0);
        Expect.notNow("no records", () -> x.file(1, 0));
        talk(x, 1);
        Expect.notNow("none the other way round", () -> x.file(0, 1));
        Expect.notNow("none of one network", () -> x.file(1, 1));
        Expect.noSuch("visited -1", () -> x.file(-1, 0));
        Expect.noSuch("visited 6", () -> x.file(6, 0));
        Expect.noSuch("home -1", () -> x.file(1, -1));
        Expect.noSuch("home 6", () -> x.file(1, 6));
        Expect.due("the record is there still", 1, x.recorded(1, 0, 0));
        x.file(1, 0);
        Expect.notNow("all are filed", () -> x.file(1, 0));
        Expect.due("filed still", 1, x.recorded(1, 0, 1));
    }

    private static void twentyFilesAtMost() {
        RoamBooks x = ready(3, 0, 0);
        for (int i = 0; i < 20; i++) {
            talk(x, 1);
            Expect.due("file", i, x.file(1, 0));
        }
        talk(x, 1);
        Expect.notNow("the 21st", () -> x.file(1, 0));
        Expect.due("not filed", 1, x.recorded(1, 0, 0));
        for (int i = 0; i < 20; i++) {
            Expect.due("deliver", 0, x.deliver(1, 0, i));
        }
        Expect.notNow("the 21st still", () -> x.file(1, 0));
        Expect.due("taken", 20, x.recorded(1, 0, 2));
        Expect.due("owed", 60, x.owes(0, 1));
        Expect.due("owed anew", 60, x.owesAnew(0, 1));
    }

    private static void filesAreTakenInOrder() {
        RoamBooks x = ready(3, 0, 0);
        for (int i = 0; i < 3; i++) {
            talk(x, 1);
            x.file(1, 0);
        }
        Expect.due("one before it", -2, x.deliver(1, 0, 1));
        Expect.due("two before it", -2, x.deliver(1, 0, 2));
        Expect.due("refused files are not taken", 3, x.recorded(1, 0, 1));
        Expect.due("the first", 0, x.deliver(1, 0, 0));
        Expect.due("taken ahead", -1, x.deliver(1, 0, 0));
        Expect.due("still one before it", -2, x.deliver(1, 0, 2));
        Expect.due("the second", 0, x.deliver(1, 0, 1));
        Expect.due("the third", 0, x.deliver(1, 0, 2));
        Expect.due("taken ahead", -1, x.deliver(1, 0, 1));
        Expect.due("owed", 9, x.owes(0, 1));
    }

    private static void oldRecordsAreSentBack() {
        RoamBooks x = ready(3, 0, 0);
        talk(x, 1);
        talk(x, 2);
        x.pass(1);
        talk(x, 4);
        x.file(1, 0);
        talk(x, 8);
        x.pass(43199);
        x.file(1, 0);
        Expect.due("two are 43200 minutes old", 2, x.deliver(1, 0, 0));
        Expect.due("sent back", 3, x.recorded(1, 0, 3));
        Expect.due("taken", 4, x.recorded(1, 0, 2));
        Expect.due("one is 43199 minutes old", 0, x.deliver(1, 0, 1));
        Expect.due("taken too", 12, x.recorded(1, 0, 2));
        Expect.due("owed without them", 36, x.owes(0, 1));
        Expect.due("owed anew without them", 36, x.owesAnew(0, 1));
        x.pass(50000);
        Expect.due("what was taken stays", 12, x.recorded(1, 0, 2));
        Expect.due("for good", 3, x.recorded(1, 0, 3));
        Expect.notNow("not filed again", () -> x.file(1, 0));
    }

    private static void anEmptiedFileIsTaken() {
        RoamBooks x = ready(3, 0, 0);
        talk(x, 1);
        x.file(1, 0);
        talk(x, 2);
        x.file(1, 0);
        x.pass(43200);
        talk(x, 4);
        x.file(1, 0);
        Expect.due("all of it", 1, x.deliver(1, 0, 0));
        Expect.due("it was taken", -1, x.deliver(1, 0, 0));
        Expect.due("not yet", -2, x.deliver(1, 0, 2));
        Expect.due("all of it", 1, x.deliver(1, 0, 1));
        Expect.due("nothing is owed", 0, x.owes(0, 1));
        Expect.due("the last", 0, x.deliver(1, 0, 2));
        Expect.due("owed", 12, x.owes(0, 1));
        Expect.due("the minutes", 3, x.recorded(1, 0, 3));
    }

    private static void deliverRefusesWrongInputs() {
        RoamBooks x = ready(3, 0, 0);
        Expect.noSuch("no file", () -> x.deliver(1, 0, 0));
        talk(x, 1);
        Expect.noSuch("not filed", () -> x.deliver(1, 0, 0));
        x.file(1, 0);
        Expect.noSuch("file -1", () -> x.deliver(1, 0, -1));
        Expect.noSuch("file 1", () -> x.deliver(1, 0, 1));
        Expect.noSuch("the other way round", () -> x.deliver(0, 1, 0));
        Expect.noSuch("visited -1", () -> x.deliver(-1, 0, 0));
        Expect.noSuch("visited 6", () -> x.deliver(6, 0, 0));
        Expect.noSuch("home -1", () -> x.deliver(1, -1, 0));
        Expect.noSuch("home 6", () -> x.deliver(1, 6, 0));
        Expect.due("not taken by that", 0, x.deliver(1, 0, 0));
    }

    private static void thresholdsReachBackToTheFirstMinute() {
        RoamBooks x = ready(5, 10, 2);
        for (int i = 0; i < 3; i++) {
            talk(x, 3);
            x.file(1, 0);
        }
        x.deliver(1, 0, 0);
        x.deliver(1, 0, 1);
        Expect.due("two of three", 30, x.owes(0, 1));
        Expect.due("two of three, anew", 30, x.owesAnew(0, 1));
        x.deliver(1, 0, 2);
        Expect.due("below the threshold", 45, x.owes(0, 1));
        Expect.due("below it, anew", 45, x.owesAnew(0, 1));
        talk(x, 1);
        x.file(1, 0);
        Expect.due("filed is not taken", 45, x.owes(0, 1));
        x.deliver(1, 0, 3);
        Expect.due("from the first minute", 20, x.owes(0, 1));
        Expect.due("from the first minute, anew", 20, x.owesAnew(0, 1));
        talk(x, 1);
        x.file(1, 0);
        x.deliver(1, 0, 4);
        Expect.due("above it", 22, x.owes(0, 1));
    }

    private static void thresholdsCountWhatIsTakenAlone() {
        RoamBooks x = ready(5, 10, 2);
        talk(x, 9);
        x.file(1, 0);
        x.pass(43200);
        talk(x, 9);
        x.file(1, 0);
        x.deliver(1, 0, 0);
        x.deliver(1, 0, 1);
        Expect.due("without what was sent back", 45, x.owes(0, 1));
        x.agree(1, 0, 0, FOREVER, 4, 0, 0);
        x.attach(1, 0);
        x.attach(0, 0);
        x.call(1, 0, 600);
        x.file(0, 1);
        x.deliver(0, 1, 0);
        Expect.due("without the other way round", 45, x.owes(0, 1));
        Expect.due("the other way round", 40, x.owes(1, 0));
        RoamBooks none = ready(5, 0, 2);
        talk(none, 20);
        none.file(1, 0);
        none.deliver(1, 0, 0);
        Expect.due("0 is no threshold", 100, none.owes(0, 1));
        RoamBooks one = ready(5, 1, 2);
        Expect.due("nothing is taken", 0, one.owes(0, 1));
        talk(one, 1);
        one.file(1, 0);
        one.deliver(1, 0, 0);
        Expect.due("1 is one", 2, one.owes(0, 1));
    }

    private static void eachRecordHasItsOwnAgreement() {
        RoamBooks x = ready(9, 6, 1);
        talk(x, 2);
        x.agree(0, 1, 0, FOREVER, 20, 7, 10);
        talk(x, 2);
        x.agree(0, 1, 0, FOREVER, 50, 0, 0);
        talk(x, 2);
        x.agree(0, 1, 0, FOREVER, 99, 0, 0);
        x.file(1, 0);
        x.deliver(1, 0, 0);
        Expect.due("the first is lower", 2 + 40 + 100, x.owes(0, 1));
        Expect.due("the same anew", 2 + 40 + 100, x.owesAnew(0, 1));
        talk(x, 1);
        x.file(1, 0);
        x.deliver(1, 0, 1);
        Expect.due("the second too", 2 + 20 + 100 + 99, x.owes(0, 1));
        Expect.due("the same anew", 2 + 20 + 100 + 99, x.owesAnew(0, 1));
    }

    private static void nothingIsOwedWithoutAnAgreement() {
        RoamBooks x = new RoamBooks();
        x.reach(0, 7);
        x.agree(0, 1, 0, 10, 5, 0, 0);
        x.subscriber(0, 0, 0);
        x.subscriber(1, 0, 0);
        x.attach(0, 1);
        x.attach(1, 1);
        x.pass(9);
        talk(x, 1);
        x.pass(1);
        talk(x, 2);
        x.agree(0, 1, 0, FOREVER, 7, 0, 0);
        x.file(1, 0);
        x.deliver(1, 0, 0);
        Expect.due("the price of the first alone", 5, x.owes(0, 1));
        Expect.due("the same anew", 5, x.owesAnew(0, 1));
        Expect.due("its minutes are taken", 3, x.recorded(1, 0, 2));
    }

    private static void owesRefusesWrongInputs() {
        RoamBooks x = new RoamBooks();
        int[] no = {-1, 6, Integer.MAX_VALUE, Integer.MIN_VALUE};
        for (int bad : no) {
            Expect.noSuch("owes, home " + bad, () -> x.owes(bad, 0));
            Expect.noSuch("owes, visited " + bad, () -> x.owes(0, bad));
            Expect.noSuch("owesAnew, home " + bad, () -> x.owesAnew(bad, 0));
            Expect.noSuch("owesAnew, visited " + bad, () -> x.owesAnew(0, bad));
        }
        Expect.due("one network", 0, x.owes(5, 5));
        Expect.due("one network", 0, x.owesAnew(5, 5));
    }

    private static void recordedRefusesWrongInputs() {
        RoamBooks x = new RoamBooks();
        Expect.noSuch("visited -1", () -> x.recorded(-1, 0, 0));
        Expect.noSuch("visited 6", () -> x.recorded(6, 0, 0));
        Expect.noSuch("home -1", () -> x.recorded(0, -1, 0));
        Expect.noSuch("home 6", () -> x.recorded(0, 6, 0));
        Expect.noSuch("networks first", () -> x.recorded(0, 6, 4));
        Expect.outOfRange("what -1", () -> x.recorded(0, 1, -1));
        Expect.outOfRange("what 4", () -> x.recorded(0, 1, 4));
        Expect.due("what 3", 0, x.recorded(5, 5, 3));
    }

    private static void passTellsTheMinute() {
        RoamBooks x = new RoamBooks();
        Expect.due("one", 1, x.pass(1));
        for (int i = 1; i < 20; i++) {
            Expect.due("the most", 50000 * i + 1, x.pass(50000));
        }
        Expect.due("up to the last", 999999, x.pass(49998));
        Expect.notNow("none are left", () -> x.pass(1));
        Expect.outOfRange("its range first", () -> x.pass(0));
    }

    private static void passRefusesWrongInputs() {
        RoamBooks x = new RoamBooks();
        Expect.outOfRange("0", () -> x.pass(0));
        Expect.outOfRange("-1", () -> x.pass(-1));
        Expect.outOfRange("50001", () -> x.pass(50001));
        Expect.outOfRange("the most", () -> x.pass(Integer.MAX_VALUE));
        Expect.due("no time has passed", 1, x.pass(1));
        for (int i = 1; i < 20; i++) {
            x.pass(50000);
        }
        x.reach(0, 1);
        x.subscriber(0, 0, 0);
        x.attach(0, 0);
        Expect.notNow("above the last", () -> x.pass(49999));
        Expect.due("no contact was made", 950001, x.contact(0, 0));
        Expect.due("no time has passed", 999999, x.pass(49998));
        Expect.due("contacts were made", 999960, x.contact(0, 0));
    }

    private static void longPassesAreLikeManyShortOnes() {
        RoamBooks once = lossy();
        RoamBooks often = lossy();
        once.pass(3000);
        for (int i = 0; i < 60; i++) {
            often.pass(50);
        }
        for (int i = 0; i < 10; i++) {
            Expect.due("where", often.where(i), once.where(i));
            Expect.due("agrees", often.agrees(i), once.agrees(i));
            for (int network = 0; network < 6; network++) {
                Expect.due("contact", often.contact(network, i), once.contact(network, i));
            }
        }
        for (int network = 0; network < 6; network++) {
            Expect.due("lost", often.lose(network, 0), once.lose(network, 0));
        }
    }

    private static void nineLostNoticesAreComeOverInALongPass() {
        RoamBooks x = ready(0, 0, 0);
        x.off(1);
        x.lose(0, 9);
        x.pass(9 * 60 + 59);
        x.attach(0, 0);
        x.lose(0, 9);
        x.pass(9 * 60);
        Expect.due("each of nine hours lost one", 1, x.where(0));
        x.lose(0, 9);
        x.pass(50000);
        Expect.due("none are left", 0, x.lose(0, 0));
        Expect.due("the note is right", 0, x.where(0));
        Expect.due("all agrees", true, x.agrees(0));
    }

    private static RoamBooks lossy() {
        RoamBooks x = new RoamBooks();
        x.reach(0, 63);
        x.pass(17);
        for (int i = 0; i < 10; i++) {
            x.subscriber(i % 2, 0, 0);
        }
        x.agree(0, 1, 0, 100, 0, 0, 0);
        x.agree(1, 0, 0, 100, 0, 0, 0);
        for (int i = 0; i < 10; i++) {
            x.attach(i, i % 2);
        }
        for (int network = 0; network < 6; network++) {
            x.lose(network, 9);
        }
        x.pass(20);
        x.attach(2, 1);
        x.attach(4, 1);
        x.attach(5, 0);
        x.off(5);
        x.off(6);
        x.crash(1);
        return x;
    }
}
