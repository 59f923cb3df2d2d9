/** Promises 9 to 17: subscribers, tries and books. */
public final class SubscribersTest {
    private static final int FOREVER = 1000000;

    private SubscribersTest() {
    }

    public static void main(String[] args) {
        subscribersAreNumbered();
        subscriberRefusesWrongInputs();
        moveKeepsWhatIsReceived();
        moveRefusesWrongInputs();
        offLeavesTheBooks();
        attachFailsForTheFirstReason();
        attachRefusesWrongInputs();
        attachIsSteeredTwice();
        triesThatFailOtherwiseAreNotSteered();
        steeringWantsAFavouriteThatCanBeUsed();
        attachHealsTheOtherBook();
        aLostNoticeLeavesTheOtherBook();
        emergencyGoesOverTheLowest();
        whereIsTheNote();
        contactIsTheLatest();
        oldContactsAreTakenOutAtAnHour();
        agreesAboutEachBook();
        subscriberIsTellsAtFirst();
        subscriberIsRefusesWrongInputs();
        Expect.end();
    }

    private static RoamBooks withNetworks(int set) {
        RoamBooks x = new RoamBooks();
        x.reach(0, set);
        return x;
    }

    private static void subscribersAreNumbered() {
        RoamBooks x = withNetworks(63);
        for (int i = 0; i < 10; i++) {
            Expect.due("subscriber", i, x.subscriber(i % 6, i % 8, i));
            Expect.due("its place", i % 8, x.subscriberIs(i, 1));
        }
        Expect.notNow("the 11th", () -> x.subscriber(0, 0, 0));
        Expect.outOfRange("its set first", () -> x.subscriber(0, 0, 64));
        Expect.noSuch("its place first", () -> x.subscriber(0, 8, 64));
        Expect.noSuch("none was made", () -> x.where(10));
        RoamBooks y = withNetworks(63);
        y.subscriber(5, 0, 31);
        Expect.due("the card forbids", 3, y.attach(0, 4));
        Expect.due("the card does not forbid", 0, y.attach(0, 5));
    }

    private static void subscriberRefusesWrongInputs() {
        RoamBooks x = new RoamBooks();
        Expect.noSuch("home -1", () -> x.subscriber(-1, 0, 0));
        Expect.noSuch("home 6", () -> x.subscriber(6, 0, 0));
        Expect.noSuch("place -1", () -> x.subscriber(0, -1, 0));
        Expect.noSuch("place 8", () -> x.subscriber(0, 8, 0));
        Expect.noSuch("place before forbidden", () -> x.subscriber(0, 8, -1));
        Expect.outOfRange("forbidden -1", () -> x.subscriber(0, 0, -1));
        Expect.outOfRange("forbidden 64", () -> x.subscriber(0, 0, 64));
        Expect.due("none was told", 0, x.subscriber(5, 7, 63));
    }

    private static void moveKeepsWhatIsReceived() {
        RoamBooks x = withNetworks(1);
        x.reach(1, 3);
        x.reach(7, 2);
        int s = x.subscriber(0, 0, 0);
        Expect.due("attached to none", -1, x.move(s, 1));
        x.attach(s, 0);
        Expect.due("received there", 0, x.move(s, 0));
        Expect.due("the same place", 0, x.move(s, 0));
        Expect.due("not received there", -1, x.move(s, 7));
        Expect.due("its place", 7, x.subscriberIs(s, 1));
        Expect.due("the book stays", 0, x.contact(0, s));
        Expect.due("not attached again", -1, x.move(s, 0));
    }

    private static void moveRefusesWrongInputs() {
        RoamBooks x = withNetworks(3);
        Expect.noSuch("no subscriber", () -> x.move(0, 0));
        int s = x.subscriber(0, 0, 0);
        x.agree(0, 1, 0, FOREVER, 0, 0, 0);
        x.steer(0, 1);
        x.attach(s, 0);
        Expect.noSuch("subscriber -1", () -> x.move(-1, 0));
        Expect.noSuch("subscriber 1", () -> x.move(1, 0));
        Expect.noSuch("place -1", () -> x.move(0, -1));
        Expect.noSuch("place 8", () -> x.move(0, 8));
        Expect.due("its place stays", 0, x.subscriberIs(s, 1));
        Expect.due("its steered tries stay", 1, x.subscriberIs(s, 2));
    }

    private static void offLeavesTheBooks() {
        RoamBooks x = withNetworks(3);
        int s = x.subscriber(0, 0, 0);
        x.agree(0, 1, 0, FOREVER, 0, 0, 0);
        Expect.due("attached to none", -1, x.off(s));
        x.attach(s, 0);
        x.steer(0, 1);
        x.attach(s, 0 + 1);
        x.attach(s, 0);
        x.pass(1);
        Expect.due("off", 1, x.off(s));
        Expect.due("attached to none then", -1, x.subscriberIs(s, 0));
        Expect.due("the book stays", 0, x.contact(1, s));
        Expect.due("the note stays", 1, x.where(s));
        Expect.due("the steered tries stay", 1, x.subscriberIs(s, 2));
        Expect.due("off again", -1, x.off(s));
        Expect.due("it may attach again", 0, x.attach(s, 1));
        Expect.noSuch("subscriber -1", () -> x.off(-1));
        Expect.noSuch("subscriber 1", () -> x.off(1));
    }

    private static void attachFailsForTheFirstReason() {
        RoamBooks x = withNetworks(0);
        int s = x.subscriber(0, 0, 2);
        int free = x.subscriber(0, 0, 0);
        x.reach(1, 63);
        x.dead(1, true);
        Expect.due("not received, dead, forbidden", 1, x.attach(s, 1));
        x.move(s, 1);
        Expect.due("dead, forbidden, no agreement", 2, x.attach(s, 1));
        x.dead(1, false);
        Expect.due("forbidden, no agreement", 3, x.attach(s, 1));
        x.steer(0, 2);
        x.agree(0, 2, 0, 5, 0, 0, 0);
        x.move(free, 1);
        Expect.due("no agreement, though steered", 4, x.attach(free, 1));
        Expect.due("none of these was steered", 0, x.subscriberIs(free, 2));
        x.agree(1, 0, 0, FOREVER, 0, 0, 0);
        Expect.due("an agreement the other way round", 4, x.attach(free, 1));
        x.agree(0, 1, 0, FOREVER, 0, 0, 0);
        Expect.due("steered", 5, x.attach(free, 1));
        Expect.due("the home needs no agreement, but is steered", 5, x.attach(free, 0));
        Expect.due("not a third time", 0, x.attach(free, 1));
        x.dead(0, true);
        Expect.due("the home is dead", 2, x.attach(free, 0));
        Expect.due("who fails stays attached", 1, x.subscriberIs(free, 0));
        Expect.due("who fails stays in the book", 0, x.contact(1, free));
    }

    private static void attachRefusesWrongInputs() {
        RoamBooks x = withNetworks(1);
        Expect.noSuch("no subscriber", () -> x.attach(0, 0));
        int s = x.subscriber(0, 0, 0);
        Expect.noSuch("subscriber -1", () -> x.attach(-1, 0));
        Expect.noSuch("subscriber 1", () -> x.attach(1, 0));
        Expect.noSuch("network -1, to none", () -> x.attach(s, -1));
        Expect.noSuch("network 6", () -> x.attach(s, 6));
        x.attach(s, 0);
        x.pass(7);
        Expect.notNow("attached to that one", () -> x.attach(s, 0));
        Expect.due("no contact by that", 0, x.contact(0, s));
        x.dead(1, true);
        Expect.notNow("that before why it would fail", () -> x.attach(s, 0));
    }

    private static void attachIsSteeredTwice() {
        RoamBooks x = withNetworks(7);
        int s = x.subscriber(0, 0, 0);
        x.agree(0, 1, 0, FOREVER, 0, 0, 0);
        x.agree(0, 2, 0, FOREVER, 0, 0, 0);
        x.steer(0, 1);
        Expect.due("first", 5, x.attach(s, 2));
        Expect.due("counted", 1, x.subscriberIs(s, 2));
        Expect.due("not attached", -1, x.subscriberIs(s, 0));
        Expect.due("not in a book", -1, x.contact(2, s));
        Expect.due("second, the home", 5, x.attach(s, 0));
        Expect.due("counted twice", 2, x.subscriberIs(s, 2));
        Expect.due("not a third time", 0, x.attach(s, 2));
        Expect.due("none since it attached", 0, x.subscriberIs(s, 2));
        Expect.due("steered again", 5, x.attach(s, 0));
        Expect.due("the favourite itself", 0, x.attach(s, 1));
        Expect.due("none since it attached", 0, x.subscriberIs(s, 2));
        Expect.due("from the favourite too", 5, x.attach(s, 0));
        Expect.due("from the favourite too", 5, x.attach(s, 2));
        x.move(s, 0);
        Expect.due("none since it was moved", 0, x.subscriberIs(s, 2));
        Expect.due("steered again", 5, x.attach(s, 2));
    }

    private static void triesThatFailOtherwiseAreNotSteered() {
        RoamBooks x = withNetworks(7);
        int s = x.subscriber(0, 0, 8);
        x.agree(0, 1, 0, FOREVER, 0, 0, 0);
        x.steer(0, 1);
        x.attach(s, 2);
        x.attach(s, 3);
        x.attach(s, 5);
        Expect.due("none was steered", 0, x.subscriberIs(s, 2));
        x.attach(s, 0);
        x.attach(s, 2);
        x.attach(s, 5);
        Expect.due("one was steered", 1, x.subscriberIs(s, 2));
        x.pass(50000);
        Expect.due("time does not tell", 1, x.subscriberIs(s, 2));
    }

    private static void steeringWantsAFavouriteThatCanBeUsed() {
        RoamBooks x = withNetworks(3);
        x.reach(1, 1);
        int s = x.subscriber(0, 0, 0);
        int forbidden = x.subscriber(0, 0, 2);
        x.steer(0, 1);
        Expect.due("no agreement for it", 0, x.attach(s, 0));
        x.off(s);
        x.agree(0, 1, 0, 10, 0, 0, 0);
        Expect.due("the card forbids it", 0, x.attach(forbidden, 0));
        Expect.due("it can be used", 5, x.attach(s, 0));
        x.dead(1, true);
        Expect.due("it is dead", 0, x.attach(s, 0));
        x.off(s);
        x.dead(1, false);
        x.move(s, 1);
        Expect.due("it is not received", 0, x.attach(s, 0));
        x.off(s);
        x.move(s, 0);
        x.pass(9);
        Expect.due("the agreement's last minute", 5, x.attach(s, 0));
        x.pass(1);
        Expect.due("the agreement has ended", 0, x.attach(s, 0));
        x.agree(0, 1, 0, 100, 0, 0, 0);
        x.off(s);
        x.steer(0, RoamBooks.NONE);
        Expect.due("no favourite", 0, x.attach(s, 0));
        x.off(s);
        x.steer(1, 0);
        Expect.due("another home's favourite", 0, x.attach(s, 0));
        int guest = x.subscriber(1, 0, 0);
        x.agree(1, 0, 0, 100, 0, 0, 0);
        Expect.due("network 0 is a favourite too", 5, x.attach(guest, 1));
    }

    private static void attachHealsTheOtherBook() {
        RoamBooks x = withNetworks(3);
        int s = x.subscriber(0, 0, 0);
        x.agree(0, 1, 0, FOREVER, 0, 0, 0);
        x.attach(s, 0);
        x.pass(5);
        x.attach(s, 1);
        Expect.due("attached to that one", 1, x.subscriberIs(s, 0));
        Expect.due("in its book", 5, x.contact(1, s));
        Expect.due("out of the other book", -1, x.contact(0, s));
        Expect.due("the note", 1, x.where(s));
        x.off(s);
        x.pass(5);
        x.attach(s, 1);
        Expect.due("in its book anew", 10, x.contact(1, s));
    }

    private static void aLostNoticeLeavesTheOtherBook() {
        RoamBooks x = withNetworks(7);
        int s = x.subscriber(0, 0, 0);
        int next = x.subscriber(1, 0, 0);
        x.agree(0, 1, 0, FOREVER, 0, 0, 0);
        x.agree(0, 2, 0, FOREVER, 0, 0, 0);
        x.attach(s, 0);
        x.lose(1, 1);
        x.attach(s, 1);
        Expect.due("in both books", 0, x.contact(0, s));
        Expect.due("in both books", 0, x.contact(1, s));
        Expect.due("the note stays", 0, x.where(s));
        Expect.due("none left to lose", 0, x.lose(1, 0));
        x.attach(s, 2);
        Expect.due("the note's book heals", -1, x.contact(0, s));
        Expect.due("the one it has not does not", 0, x.contact(1, s));
        x.pass(179);
        Expect.due("179 minutes are not enough", 0, x.contact(1, s));
        x.pass(1);
        Expect.due("180 minutes are", -1, x.contact(1, s));
        x.attach(s, 1);
        x.attach(next, 1);
        x.crash(1);
        x.dead(2, true);
        x.lose(1, 1);
        x.pass(60);
        Expect.due("the lower number's is lost", 0, x.lose(1, 0));
        Expect.due("by numbers", 1, x.where(next));
    }

    private static void emergencyGoesOverTheLowest() {
        RoamBooks x = withNetworks(0);
        int s = x.subscriber(0, 0, 63);
        Expect.due("none is received", -1, x.emergency(s));
        x.reach(0, 52);
        Expect.due("the lowest, though forbidden", 2, x.emergency(s));
        x.dead(2, true);
        Expect.due("not a dead one", 4, x.emergency(s));
        x.dead(4, true);
        Expect.due("the last one", 5, x.emergency(s));
        x.dead(5, true);
        Expect.due("all dead", -1, x.emergency(s));
        x.reach(1, 9);
        int attached = x.subscriber(3, 1, 0);
        Expect.due("the lowest", 0, x.emergency(attached));
        x.attach(attached, 3);
        Expect.due("that to which it is attached", 3, x.emergency(attached));
        Expect.noSuch("subscriber -1", () -> x.emergency(-1));
        Expect.noSuch("subscriber 2", () -> x.emergency(2));
    }

    private static void whereIsTheNote() {
        RoamBooks x = withNetworks(3);
        Expect.noSuch("no subscriber", () -> x.where(0));
        int s = x.subscriber(1, 0, 0);
        Expect.due("at first", -1, x.where(s));
        x.attach(s, 0);
        Expect.due("a try that failed", -1, x.where(s));
        x.attach(s, 1);
        Expect.due("attached", 1, x.where(s));
        x.off(s);
        x.pass(1000);
        Expect.due("the note stays", 1, x.where(s));
        Expect.noSuch("subscriber -1", () -> x.where(-1));
        Expect.noSuch("subscriber 1", () -> x.where(1));
    }

    private static void contactIsTheLatest() {
        RoamBooks x = withNetworks(1);
        int s = x.subscriber(0, 0, 0);
        Expect.due("not in it", -1, x.contact(0, s));
        x.pass(61);
        x.attach(s, 0);
        Expect.due("the attach", 61, x.contact(0, s));
        x.pass(58);
        Expect.due("no hour has begun", 61, x.contact(0, s));
        x.pass(1);
        Expect.due("an hour has begun", 120, x.contact(0, s));
        x.pass(59);
        Expect.due("no other one", 120, x.contact(0, s));
        x.pass(50000);
        Expect.due("the latest of many", 50160, x.contact(0, s));
        x.off(s);
        x.pass(199);
        Expect.due("as a minute begins that 60 divides", -1, x.contact(0, s));
        Expect.noSuch("network -1", () -> x.contact(-1, 0));
        Expect.noSuch("network 6", () -> x.contact(6, 0));
        Expect.noSuch("subscriber -1", () -> x.contact(0, -1));
        Expect.noSuch("subscriber 1", () -> x.contact(0, 1));
    }

    private static void oldContactsAreTakenOutAtAnHour() {
        RoamBooks x = withNetworks(1);
        int s = x.subscriber(0, 0, 0);
        x.pass(1);
        x.attach(s, 0);
        x.off(s);
        x.pass(179);
        Expect.due("179 minutes ago, at an hour", 1, x.contact(0, s));
        x.pass(59);
        Expect.due("238 minutes ago, at none", 1, x.contact(0, s));
        x.pass(1);
        Expect.due("239 minutes ago, at an hour", -1, x.contact(0, s));
        x.attach(s, 0);
        x.off(s);
        x.pass(179);
        Expect.due("179 minutes ago, at none", 240, x.contact(0, s));
        x.pass(1);
        Expect.due("180 minutes ago, at an hour", -1, x.contact(0, s));
    }

    private static void agreesAboutEachBook() {
        RoamBooks x = withNetworks(7);
        int s = x.subscriber(0, 0, 0);
        x.agree(0, 1, 0, FOREVER, 0, 0, 0);
        Expect.due("in no book", true, x.agrees(s));
        x.attach(s, 0);
        Expect.due("in the right book", true, x.agrees(s));
        x.crash(0);
        Expect.due("not in the book", false, x.agrees(s));
        x.attach(s, 1);
        Expect.due("healed", true, x.agrees(s));
        x.lose(0, 1);
        x.attach(s, 0);
        Expect.due("in two books", false, x.agrees(s));
        x.crash(1);
        Expect.due("another note", false, x.agrees(s));
        x.pass(60);
        Expect.due("healed by a contact", true, x.agrees(s));
        x.off(s);
        Expect.due("off, in a book", false, x.agrees(s));
        x.pass(180);
        Expect.due("off, in no book", true, x.agrees(s));
        x.attach(s, 0);
        x.off(s);
        x.lose(1, 1);
        x.attach(s, 1);
        x.pass(60);
        x.pass(1);
        Expect.due("healed once more", true, x.agrees(s));
        Expect.noSuch("subscriber -1", () -> x.agrees(-1));
        Expect.noSuch("subscriber 1", () -> x.agrees(1));
    }

    private static void subscriberIsTellsAtFirst() {
        RoamBooks x = new RoamBooks();
        int s = x.subscriber(2, 6, 0);
        int[] due = {-1, 6, 0, 0, 0, 0, 5000};
        for (int what = 0; what < due.length; what++) {
            Expect.due("subscriberIs at first " + what, due[what], x.subscriberIs(s, what));
        }
    }

    private static void subscriberIsRefusesWrongInputs() {
        RoamBooks x = new RoamBooks();
        x.subscriber(0, 0, 0);
        Expect.noSuch("subscriber -1", () -> x.subscriberIs(-1, 0));
        Expect.noSuch("subscriber 1", () -> x.subscriberIs(1, 0));
        Expect.noSuch("subscriber first", () -> x.subscriberIs(1, 7));
        Expect.outOfRange("what -1", () -> x.subscriberIs(0, -1));
        Expect.outOfRange("what 7", () -> x.subscriberIs(0, 7));
    }
}
