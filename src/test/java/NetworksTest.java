/** Promises 1 to 8: a new object, and what is told of networks and agreements. */
public final class NetworksTest {
    private static final int FOREVER = 1000000;

    private NetworksTest() {
    }

    public static void main(String[] args) {
        aNewObjectKnowsNothing();
        reachTellsWhatIsReceived();
        reachDetachesThoseAtThePlaceAlone();
        reachRefusesWrongInputs();
        deadDetachesAndEmptiesTheBook();
        deadRefusesWrongInputs();
        agreeCountsUpToThirty();
        agreeTakesItsEdges();
        agreeRefusesWrongInputs();
        theAgreementToldLastHolds();
        steerSetsTheFavourite();
        steerRefusesWrongInputs();
        pricesHoldForCallsFromNowOn();
        pricesRefusesWrongInputs();
        loseReplacesWhatWasTold();
        loseRefusesWrongInputs();
        crashEmptiesTheBookAlone();
        Expect.end();
    }

    private static void aNewObjectKnowsNothing() {
        RoamBooks x = new RoamBooks();
        Expect.due("NONE", -1, RoamBooks.NONE);
        Expect.noSuch("no subscriber at first", () -> x.where(0));
        for (int i = 0; i < 6; i++) {
            int network = i;
            Expect.due("dead at first", false, x.dead(network, false));
            Expect.due("favourite at first", -1, x.steer(network, RoamBooks.NONE));
            Expect.due("lost at first", 0, x.lose(network, 0));
            Expect.due("book at first", 0, x.crash(network));
            for (int j = 0; j < 6; j++) {
                Expect.due("owes at first", 0, x.owes(network, j));
                Expect.due("recorded at first", 0, x.recorded(network, j, 0));
            }
        }
        for (int place = 0; place < 8; place++) {
            Expect.due("received at first", 0, x.reach(place, 0));
        }
        Expect.due("the minute is 0 at first", 1, x.pass(1));
        Expect.due("agreements at first", 1, x.agree(0, 1, 0, 1, 0, 0, 0));
        Expect.due("subscribers at first", 0, x.subscriber(0, 0, 0));
    }

    private static void reachTellsWhatIsReceived() {
        RoamBooks x = new RoamBooks();
        Expect.due("reach(7, 63)", 0, x.reach(7, 63));
        Expect.due("reach(7, 5)", 63, x.reach(7, 5));
        Expect.due("reach(7, 0)", 5, x.reach(7, 0));
        Expect.due("reach(6, 1)", 0, x.reach(6, 1));
        int s = x.subscriber(0, 7, 0);
        Expect.due("not received", 1, x.attach(s, 0));
        x.move(s, 6);
        Expect.due("received", 0, x.attach(s, 0));
    }

    private static void reachDetachesThoseAtThePlaceAlone() {
        RoamBooks x = new RoamBooks();
        x.reach(0, 3);
        x.reach(1, 3);
        int goes = x.subscriber(0, 0, 0);
        int stays = x.subscriber(1, 0, 0);
        int elsewhere = x.subscriber(0, 1, 0);
        x.attach(stays, 1);
        x.attach(goes, 0);
        x.attach(elsewhere, 0);
        x.reach(0, 2);
        Expect.due("received still", 1, x.subscriberIs(stays, 0));
        Expect.due("received no more", -1, x.subscriberIs(goes, 0));
        Expect.due("at another place", 0, x.subscriberIs(elsewhere, 0));
        Expect.due("the book stays", 0, x.contact(0, goes));
        Expect.due("the note stays", 0, x.where(goes));
        x.reach(0, 3);
        Expect.due("not attached again", -1, x.subscriberIs(goes, 0));
    }

    private static void reachRefusesWrongInputs() {
        RoamBooks x = new RoamBooks();
        x.reach(0, 1);
        int s = x.subscriber(0, 0, 0);
        x.attach(s, 0);
        Expect.noSuch("place -1", () -> x.reach(-1, 0));
        Expect.noSuch("place 8", () -> x.reach(8, 0));
        Expect.noSuch("place first", () -> x.reach(8, 64));
        Expect.outOfRange("networks -1", () -> x.reach(0, -1));
        Expect.outOfRange("networks 64", () -> x.reach(0, 64));
        Expect.due("attached still", 0, x.subscriberIs(s, 0));
        Expect.due("received still", 1, x.reach(0, 1));
    }

    private static void deadDetachesAndEmptiesTheBook() {
        RoamBooks x = new RoamBooks();
        x.reach(0, 3);
        int s = x.subscriber(0, 0, 0);
        int other = x.subscriber(1, 0, 0);
        x.attach(s, 0);
        x.attach(other, 1);
        Expect.due("dead(0, true)", false, x.dead(0, true));
        Expect.due("nobody is attached", -1, x.subscriberIs(s, 0));
        Expect.due("the book is empty", -1, x.contact(0, s));
        Expect.due("the note stays", 0, x.where(s));
        Expect.due("other networks stay", 1, x.subscriberIs(other, 0));
        Expect.due("other books stay", 0, x.contact(1, other));
        Expect.due("a dead one cannot be used", 2, x.attach(s, 0));
        Expect.due("dead(0, true) again", true, x.dead(0, true));
        Expect.due("dead(0, false)", true, x.dead(0, false));
        Expect.due("not attached again", -1, x.subscriberIs(s, 0));
        Expect.due("alive again", 0, x.attach(s, 0));
        Expect.due("dead(0, false) again", false, x.dead(0, false));
        Expect.due("attached still", 0, x.subscriberIs(s, 0));
        Expect.due("in the book still", 0, x.contact(0, s));
    }

    private static void deadRefusesWrongInputs() {
        RoamBooks x = new RoamBooks();
        Expect.noSuch("network -1", () -> x.dead(-1, true));
        Expect.noSuch("network 6", () -> x.dead(6, true));
        Expect.due("network 5", false, x.dead(5, true));
    }

    private static void agreeCountsUpToThirty() {
        RoamBooks x = new RoamBooks();
        for (int i = 1; i <= 30; i++) {
            Expect.due("agree", i, x.agree(i % 6, (i + 1) % 6, 0, 1, 0, 0, 0));
        }
        Expect.notNow("the 31st", () -> x.agree(0, 1, 0, 1, 0, 0, 0));
        Expect.outOfRange("its arguments first", () -> x.agree(0, 0, 0, 1, 0, 0, 0));
        Expect.noSuch("its networks first", () -> x.agree(0, 6, 0, 1, 0, 0, 0));
        Expect.notNow("the 31st still", () -> x.agree(0, 1, 0, 1, 0, 0, 0));
    }

    private static void agreeTakesItsEdges() {
        RoamBooks x = new RoamBooks();
        Expect.due("the least", 1, x.agree(0, 5, 0, 1, 0, 0, 0));
        Expect.due("the most", 2, x.agree(5, 0, 999999, FOREVER, 99, 9999, 99));
        Expect.due("lower by all", 3, x.agree(1, 2, 10, 20, 99, 1, 0));
    }

    private static void agreeRefusesWrongInputs() {
        RoamBooks x = new RoamBooks();
        Expect.noSuch("home -1", () -> x.agree(-1, 1, 0, 1, 0, 0, 0));
        Expect.noSuch("home 6", () -> x.agree(6, 1, 0, 1, 0, 0, 0));
        Expect.noSuch("visited -1", () -> x.agree(0, -1, 0, 1, 0, 0, 0));
        Expect.noSuch("visited 6", () -> x.agree(0, 6, 0, 1, 0, 0, 0));
        Expect.noSuch("both 6", () -> x.agree(6, 6, 0, 1, 0, 0, 0));
        Expect.noSuch("visited before from", () -> x.agree(0, 6, -1, 1, 0, 0, 0));
        Expect.outOfRange("both the same", () -> x.agree(3, 3, 0, 1, 0, 0, 0));
        Expect.outOfRange("from -1", () -> x.agree(0, 1, -1, 1, 0, 0, 0));
        Expect.outOfRange("from 1000000", () -> x.agree(0, 1, FOREVER, FOREVER + 1, 0, 0, 0));
        Expect.outOfRange("from the most", () -> x.agree(0, 1, Integer.MAX_VALUE, Integer.MIN_VALUE, 0, 0, 0));
        Expect.outOfRange("to is from", () -> x.agree(0, 1, 7, 7, 0, 0, 0));
        Expect.outOfRange("to 1000001", () -> x.agree(0, 1, 7, FOREVER + 1, 0, 0, 0));
        Expect.outOfRange("price -1", () -> x.agree(0, 1, 0, 1, -1, 0, -1));
        Expect.outOfRange("price 100", () -> x.agree(0, 1, 0, 1, 100, 0, 0));
        Expect.outOfRange("threshold -1", () -> x.agree(0, 1, 0, 1, 0, -1, 0));
        Expect.outOfRange("threshold 10000", () -> x.agree(0, 1, 0, 1, 0, 10000, 0));
        Expect.outOfRange("lower -1", () -> x.agree(0, 1, 0, 1, 5, 0, -1));
        Expect.outOfRange("lower above price", () -> x.agree(0, 1, 0, 1, 5, 0, 6));
        Expect.due("none was told", 1, x.agree(0, 1, 0, 1, 0, 0, 0));
    }

    private static void theAgreementToldLastHolds() {
        RoamBooks x = new RoamBooks();
        x.reach(0, 7);
        int s = x.subscriber(0, 0, 0);
        int home = x.subscriber(1, 0, 0);
        x.agree(0, 1, 10, 20, 5, 0, 0);
        x.agree(2, 1, 0, FOREVER, 5, 0, 0);
        x.agree(0, 2, 0, FOREVER, 5, 0, 0);
        x.agree(1, 0, 0, FOREVER, 5, 0, 0);
        x.pass(9);
        Expect.due("the minute before it", 4, x.attach(s, 1));
        x.pass(1);
        Expect.due("its first minute", 0, x.attach(s, 1));
        x.attach(home, 1);
        x.attach(s, 0);
        x.pass(9);
        Expect.due("its last minute", 0, x.attach(s, 1));
        x.agree(0, 1, 0, 19, 30, 0, 0);
        x.agree(0, 1, 20, 21, 40, 0, 0);
        x.call(s, home, 60);
        x.agree(0, 1, 0, FOREVER, 8, 0, 0);
        x.call(s, home, 60);
        x.agree(0, 1, 0, FOREVER, 9, 0, 0);
        x.file(1, 0);
        x.deliver(1, 0, 0);
        Expect.due("by what held and was told then", 13, x.owes(0, 1));
        Expect.due("the same file by file", 13, x.owesAnew(0, 1));
        RoamBooks y = new RoamBooks();
        y.reach(0, 3);
        y.subscriber(0, 0, 0);
        y.agree(0, 1, 10, 20, 5, 0, 0);
        y.pass(20);
        Expect.due("the minute after it", 4, y.attach(0, 1));
    }

    private static void steerSetsTheFavourite() {
        RoamBooks x = new RoamBooks();
        Expect.due("steer(0, 1)", -1, x.steer(0, 1));
        Expect.due("steer(0, 5)", 1, x.steer(0, 5));
        Expect.due("steer(1, 0)", -1, x.steer(1, 0));
        Expect.due("steer(0, NONE)", 5, x.steer(0, RoamBooks.NONE));
        Expect.due("steer(0, 2)", -1, x.steer(0, 2));
    }

    private static void steerRefusesWrongInputs() {
        RoamBooks x = new RoamBooks();
        x.steer(0, 1);
        Expect.noSuch("home -1", () -> x.steer(-1, 0));
        Expect.noSuch("home -1, network -1", () -> x.steer(-1, -1));
        Expect.noSuch("home 6", () -> x.steer(6, 0));
        Expect.noSuch("home 6, network 6", () -> x.steer(6, 6));
        Expect.noSuch("network -2", () -> x.steer(0, -2));
        Expect.noSuch("network 6", () -> x.steer(0, 6));
        Expect.outOfRange("the home itself", () -> x.steer(0, 0));
        Expect.due("the favourite stays", 1, x.steer(0, RoamBooks.NONE));
    }

    private static void pricesHoldForCallsFromNowOn() {
        RoamBooks x = new RoamBooks();
        x.reach(0, 3);
        int caller = x.subscriber(0, 0, 0);
        int other = x.subscriber(1, 0, 0);
        x.agree(1, 0, 0, FOREVER, 1, 0, 0);
        x.attach(caller, 0);
        x.attach(other, 0);
        x.call(caller, other, 60);
        x.prices(0, 99, 98, 97);
        x.prices(1, 0, 0, 7);
        Expect.due("paid before", 10, x.subscriberIs(caller, 3));
        Expect.due("paid for being called before", 20, x.subscriberIs(other, 3));
        x.call(caller, other, 60);
        Expect.due("at home", 109, x.subscriberIs(caller, 3));
        Expect.due("being called abroad", 27, x.subscriberIs(other, 3));
        x.prices(1, 3, 4, 5);
        x.call(other, caller, 60);
        Expect.due("abroad", 31, x.subscriberIs(other, 3));
        Expect.due("called at home", 109, x.subscriberIs(caller, 3));
        x.attach(other, 1);
        x.call(other, caller, 60);
        Expect.due("the other one at home", 34, x.subscriberIs(other, 3));
    }

    private static void pricesRefusesWrongInputs() {
        RoamBooks x = new RoamBooks();
        x.reach(0, 1);
        x.subscriber(0, 0, 0);
        x.subscriber(0, 0, 0);
        x.attach(0, 0);
        x.attach(1, 0);
        Expect.noSuch("home -1", () -> x.prices(-1, 0, 0, 0));
        Expect.noSuch("home 6", () -> x.prices(6, 0, 0, 0));
        Expect.noSuch("home first", () -> x.prices(6, 100, 0, 0));
        Expect.outOfRange("atHome -1", () -> x.prices(0, -1, 0, 0));
        Expect.outOfRange("atHome 100", () -> x.prices(0, 100, 0, 0));
        Expect.outOfRange("abroad -1", () -> x.prices(0, 0, -1, 0));
        Expect.outOfRange("abroad 100", () -> x.prices(0, 0, 100, 0));
        Expect.outOfRange("called -1", () -> x.prices(0, 0, 0, -1));
        Expect.outOfRange("called 100", () -> x.prices(0, 0, 0, 100));
        x.call(0, 1, 60);
        Expect.due("the price stays", 10, x.subscriberIs(0, 3));
    }

    private static void loseReplacesWhatWasTold() {
        RoamBooks x = new RoamBooks();
        x.reach(0, 1);
        int s = x.subscriber(0, 0, 0);
        Expect.due("lose(0, 9)", 0, x.lose(0, 9));
        Expect.due("lose(0, 2)", 9, x.lose(0, 2));
        x.lose(1, 5);
        x.attach(s, 0);
        Expect.due("the first is lost", -1, x.where(s));
        Expect.due("the book has it", 0, x.contact(0, s));
        x.pass(60);
        Expect.due("a contact's is lost", -1, x.where(s));
        Expect.due("the contact is made", 60, x.contact(0, s));
        x.pass(60);
        Expect.due("the third is not lost", 0, x.where(s));
        Expect.due("none are left", 0, x.lose(0, 0));
        Expect.due("another network's stay", 5, x.lose(1, 0));
    }

    private static void loseRefusesWrongInputs() {
        RoamBooks x = new RoamBooks();
        x.lose(0, 4);
        Expect.noSuch("network -1", () -> x.lose(-1, 0));
        Expect.noSuch("network 6", () -> x.lose(6, 0));
        Expect.noSuch("network first", () -> x.lose(6, 10));
        Expect.outOfRange("many -1", () -> x.lose(0, -1));
        Expect.outOfRange("many 10", () -> x.lose(0, 10));
        Expect.due("what was told stays", 4, x.lose(0, 0));
    }

    private static void crashEmptiesTheBookAlone() {
        RoamBooks x = new RoamBooks();
        x.reach(0, 3);
        for (int i = 0; i < 3; i++) {
            x.subscriber(0, 0, 0);
            x.attach(i, 0);
        }
        int other = x.subscriber(1, 0, 0);
        x.attach(other, 1);
        Expect.due("crash(0)", 3, x.crash(0));
        Expect.due("the book is empty", -1, x.contact(0, 2));
        Expect.due("attached still", 0, x.subscriberIs(2, 0));
        Expect.due("the note stays", 0, x.where(2));
        Expect.due("another book stays", 0, x.contact(1, other));
        Expect.due("crash(0) again", 0, x.crash(0));
        x.pass(60);
        Expect.due("contacts fill it again", 3, x.crash(0));
        Expect.noSuch("network -1", () -> x.crash(-1));
        Expect.noSuch("network 6", () -> x.crash(6));
    }
}
