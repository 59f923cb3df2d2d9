/** Promises 18 to 20: caps, calls and what is paid. */
public final class CallsTest {
    private static final int FOREVER = 1000000;

    private CallsTest() {
    }

    public static void main(String[] args) {
        callFailsForTheFirstReason();
        minutesAreRoundedUp();
        onlyWhoIsAbroadIsRecorded();
        capsCutAbroadAlone();
        theCapComesByBothCalls();
        consentGoesAboveTheCap();
        aCallThatFailsCostsNothing();
        warnedFromEightyHundredths();
        theMonthBeginsAnew();
        capRefusesWrongInputs();
        callRefusesWrongInputs();
        twoHundredCallsAtMost();
        paidAnewIsWhatWasPaid();
        Expect.end();
    }

    // Networks 0 to 2 are received everywhere that is told, 0 and 1 agree for ever, for 1 cent.
    private static RoamBooks ready() {
        RoamBooks x = new RoamBooks();
        x.reach(0, 7);
        x.agree(0, 1, 0, FOREVER, 1, 0, 0);
        x.agree(1, 0, 0, FOREVER, 1, 0, 0);
        return x;
    }

    private static int attached(RoamBooks x, int home, int network) {
        int s = x.subscriber(home, 0, 0);
        x.attach(s, network);
        return s;
    }

    private static void callFailsForTheFirstReason() {
        RoamBooks x = ready();
        int caller = x.subscriber(0, 0, 0);
        int other = x.subscriber(0, 0, 0);
        x.cap(caller, 0, false);
        x.cap(other, 0, false);
        Expect.due("nobody is attached", 1, x.call(caller, other, 60));
        x.attach(caller, 1);
        Expect.due("no note of the other one", 2, x.call(caller, other, 60));
        x.attach(other, 1);
        x.crash(1);
        Expect.due("not in the book", 3, x.call(caller, other, 60));
        x.off(other);
        Expect.due("not in the book, and off", 3, x.call(caller, other, 60));
        x.attach(other, 1);
        x.off(other);
        Expect.due("in the book, and off", 4, x.call(caller, other, 60));
        x.lose(0, 1);
        x.attach(other, 0);
        Expect.due("attached to another one", 4, x.call(caller, other, 60));
        x.attach(other, 1);
        Expect.due("above the caller's cap", 5, x.call(caller, other, 60));
        x.cap(caller, 50, false);
        Expect.due("above the other one's cap", 6, x.call(caller, other, 60));
        x.cap(other, 20, false);
        Expect.due("both come to the cap", 0, x.call(caller, other, 60));
        Expect.due("paid by the caller", 50, x.subscriberIs(caller, 4));
        Expect.due("paid by the other one", 20, x.subscriberIs(other, 4));
    }

    private static void minutesAreRoundedUp() {
        int[] seconds = {1, 59, 60, 61, 120, 121, 36000};
        int[] minutes = {1, 1, 1, 2, 2, 3, 600};
        RoamBooks x = ready();
        int caller = attached(x, 0, 0);
        int other = attached(x, 0, 0);
        int paid = 0;
        for (int i = 0; i < seconds.length; i++) {
            Expect.due("call", 0, x.call(caller, other, seconds[i]));
            paid += 10 * minutes[i];
            Expect.due("paid for " + seconds[i], paid, x.subscriberIs(caller, 3));
        }
        Expect.due("at home nothing counts for the cap", 0, x.subscriberIs(caller, 4));
        Expect.due("who is called at home pays nothing", 0, x.subscriberIs(other, 3));
    }

    private static void onlyWhoIsAbroadIsRecorded() {
        RoamBooks x = ready();
        int abroad = attached(x, 0, 1);
        int home = attached(x, 1, 1);
        int guest = attached(x, 1, 0);
        x.call(abroad, home, 60);
        Expect.due("the caller's", 1, x.recorded(1, 0, 0));
        Expect.due("not the other one's", 0, x.recorded(0, 1, 0));
        x.call(home, abroad, 120);
        Expect.due("the other one's", 3, x.recorded(1, 0, 0));
        x.call(abroad, guest, 240);
        Expect.due("both: the caller's", 7, x.recorded(1, 0, 0));
        Expect.due("both: the other one's", 4, x.recorded(0, 1, 0));
        Expect.due("the caller paid", 50 + 40 + 200, x.subscriberIs(abroad, 3));
        Expect.due("the guest paid", 80, x.subscriberIs(guest, 3));
        Expect.due("the one at home paid", 20, x.subscriberIs(home, 3));
    }

    private static void capsCutAbroadAlone() {
        RoamBooks x = ready();
        int s = attached(x, 0, 1);
        int other = attached(x, 1, 1);
        Expect.due("5000 at first", 0, x.call(s, other, 6000));
        Expect.due("above 5000", 5, x.call(s, other, 1));
        Expect.due("paid", 5000, x.subscriberIs(s, 4));
        Expect.due("above it by being called", 6, x.call(other, s, 1));
        x.attach(s, 0);
        Expect.due("at home it does not count", 0, x.call(s, other, 60));
        Expect.due("called at home", 0, x.call(other, s, 60));
        x.cap(s, 0, false);
        Expect.due("at home, above the cap already", 0, x.call(s, other, 60));
        Expect.due("paid at home", 5020, x.subscriberIs(s, 3));
        Expect.due("paid abroad", 5000, x.subscriberIs(s, 4));
        x.attach(s, 1);
        x.prices(0, 0, 0, 0);
        Expect.due("it is more than the cap, though nothing is added", 5, x.call(s, other, 60));
        x.cap(s, 5000, false);
        Expect.due("it is not more than the cap", 0, x.call(s, other, 60));
    }

    private static void theCapComesByBothCalls() {
        RoamBooks x = ready();
        int s = attached(x, 0, 1);
        int other = attached(x, 1, 1);
        x.cap(s, 70, false);
        x.call(other, s, 60);
        Expect.due("being called counts", 0, x.call(s, other, 60));
        Expect.due("70 of 70", 70, x.subscriberIs(s, 4));
        Expect.due("above it", 6, x.call(other, s, 60));
    }

    private static void consentGoesAboveTheCap() {
        RoamBooks x = ready();
        int s = attached(x, 0, 1);
        int other = attached(x, 1, 1);
        x.cap(s, 10, true);
        Expect.due("the cap", 10, x.subscriberIs(s, 6));
        Expect.due("calling", 0, x.call(s, other, 60));
        Expect.due("being called", 0, x.call(other, s, 60));
        x.cap(s, 99999, false);
        Expect.due("the cap", 99999, x.subscriberIs(s, 6));
        Expect.due("below the cap", 0, x.call(s, other, 60));
        x.cap(s, 10, false);
        Expect.due("no consent any more", 5, x.call(s, other, 60));
    }

    private static void aCallThatFailsCostsNothing() {
        RoamBooks x = ready();
        int s = attached(x, 0, 1);
        int other = attached(x, 1, 0);
        x.cap(other, 19, false);
        Expect.due("the other one's cap", 6, x.call(s, other, 60));
        Expect.due("the caller pays nothing", 0, x.subscriberIs(s, 3));
        Expect.due("nothing abroad", 0, x.subscriberIs(s, 4));
        Expect.due("nothing anew", 0, x.paidAnew(s));
        Expect.due("nothing is recorded", 0, x.recorded(1, 0, 0));
    }

    private static void warnedFromEightyHundredths() {
        RoamBooks x = ready();
        int s = attached(x, 0, 1);
        int other = attached(x, 1, 1);
        x.prices(0, 10, 1, 1);
        x.cap(s, 11, false);
        x.call(s, other, 480);
        Expect.due("8 of 8.8", 0, x.subscriberIs(s, 5));
        x.call(s, other, 60);
        Expect.due("9 of 8.8", 1, x.subscriberIs(s, 5));
        x.cap(s, 12, true);
        Expect.due("9 of 9.6, by consent", 0, x.subscriberIs(s, 5));
        x.call(s, other, 60);
        Expect.due("10 of 9.6, by consent", 1, x.subscriberIs(s, 5));
        x.cap(s, 13, false);
        Expect.due("10 of 10.4", 0, x.subscriberIs(s, 5));
        x.cap(s, 99999, false);
        Expect.due("10 of 79999.2", 0, x.subscriberIs(s, 5));
        x.cap(s, 100000 - 1, false);
        x.call(s, other, 36000);
        x.prices(0, 10, 99, 1);
        x.call(s, other, 34 * 60);
        x.cap(s, 5000, false);
        x.prices(0, 10, 1, 1);
        x.call(s, other, 23 * 60);
        Expect.due("paid", 10 + 600 + 34 * 99 + 23, x.subscriberIs(s, 4));
        Expect.due("3999 of 4000", 0, x.subscriberIs(s, 5));
        x.call(s, other, 60);
        Expect.due("4000 of 4000", 1, x.subscriberIs(s, 5));
        x.cap(s, 5001, false);
        Expect.due("4000 of 4000.8", 0, x.subscriberIs(s, 5));
        x.cap(other, 0, false);
        Expect.due("0 of 0", 1, x.subscriberIs(other, 5));
        x.cap(other, 1, false);
        Expect.due("0 of 0.8", 0, x.subscriberIs(other, 5));
        x.cap(s, 10, false);
        x.pass(43200);
        Expect.due("not in another month", 0, x.subscriberIs(s, 5));
    }

    private static void theMonthBeginsAnew() {
        RoamBooks x = ready();
        int s = attached(x, 0, 1);
        int other = attached(x, 1, 1);
        x.pass(43199);
        x.call(s, other, 60);
        Expect.due("in this month", 50, x.subscriberIs(s, 4));
        x.pass(1);
        Expect.due("in the next", 0, x.subscriberIs(s, 4));
        x.call(s, other, 120);
        Expect.due("in the next, told anew", 100, x.subscriberIs(s, 4));
        x.pass(43199);
        Expect.due("in its last minute", 100, x.subscriberIs(s, 4));
        x.pass(43201);
        Expect.due("over a whole month", 0, x.subscriberIs(s, 4));
        Expect.due("all stays", 150, x.subscriberIs(s, 3));
    }

    private static void capRefusesWrongInputs() {
        RoamBooks x = ready();
        Expect.noSuch("no subscriber", () -> x.cap(0, 0, false));
        int s = attached(x, 0, 1);
        int other = attached(x, 1, 1);
        x.cap(s, 20, false);
        Expect.noSuch("subscriber -1", () -> x.cap(-1, 0, true));
        Expect.noSuch("subscriber first", () -> x.cap(2, -1, true));
        Expect.outOfRange("cap -1", () -> x.cap(s, -1, true));
        Expect.outOfRange("cap 100000", () -> x.cap(s, 100000, true));
        Expect.due("the cap stays", 20, x.subscriberIs(s, 6));
        Expect.due("no consent by that", 5, x.call(s, other, 60));
    }

    private static void callRefusesWrongInputs() {
        RoamBooks x = ready();
        Expect.noSuch("nobody", () -> x.call(0, 1, 60));
        int s = attached(x, 0, 0);
        Expect.noSuch("subscriber -1", () -> x.call(-1, 0, 60));
        Expect.noSuch("both -1", () -> x.call(-1, -1, 60));
        Expect.noSuch("other -1", () -> x.call(0, -1, 60));
        Expect.noSuch("other 1", () -> x.call(0, 1, 60));
        Expect.noSuch("other before seconds", () -> x.call(0, 1, 0));
        Expect.outOfRange("both the same", () -> x.call(0, 0, 60));
        int other = attached(x, 0, 0);
        Expect.outOfRange("seconds -1", () -> x.call(s, other, -1));
        Expect.outOfRange("seconds 0", () -> x.call(s, other, 0));
        Expect.outOfRange("seconds 36001", () -> x.call(s, other, 36001));
        Expect.outOfRange("the most seconds", () -> x.call(s, other, Integer.MAX_VALUE));
        Expect.due("nothing is paid", 0, x.subscriberIs(s, 3));
    }

    private static void twoHundredCallsAtMost() {
        RoamBooks x = ready();
        int s = attached(x, 0, 0);
        int other = attached(x, 0, 0);
        int lost = x.subscriber(0, 0, 0);
        for (int i = 0; i < 200; i++) {
            if (i < 30) {
                Expect.due("a call that fails does not count", 2, x.call(s, lost, 60));
            }
            Expect.due("call", 0, x.call(s, other, 60));
        }
        Expect.notNow("the 201st", () -> x.call(s, other, 60));
        Expect.notNow("one that would fail", () -> x.call(lost, other, 60));
        Expect.outOfRange("its arguments first", () -> x.call(s, other, 0));
        Expect.noSuch("its subscribers first", () -> x.call(s, 3, 0));
        Expect.due("all that it paid", 2000, x.subscriberIs(s, 3));
        Expect.due("all anew", 2000, x.paidAnew(s));
    }

    private static void paidAnewIsWhatWasPaid() {
        RoamBooks x = ready();
        int s = attached(x, 0, 1);
        int other = attached(x, 1, 0);
        int third = attached(x, 0, 0);
        x.call(s, other, 61);
        x.prices(0, 1, 2, 3);
        x.call(other, s, 60);
        x.call(third, other, 60);
        x.pass(50000);
        Expect.due("the caller", 103, x.paidAnew(s));
        Expect.due("the other one", 40 + 50 + 20, x.paidAnew(other));
        Expect.due("the third", 1, x.paidAnew(third));
        for (int i = 0; i < 3; i++) {
            Expect.due("the same", x.subscriberIs(i, 3), x.paidAnew(i));
        }
        Expect.noSuch("subscriber -1", () -> x.paidAnew(-1));
        Expect.noSuch("subscriber 3", () -> x.paidAnew(3));
    }
}
