/** Promise 1: a new object. */
public final class Promise01NewObjectTest {
    private Promise01NewObjectTest() {
    }

    public static void main(String[] args) {
        Cases.run(Promise01NewObjectTest.class);
    }

    static void noneIsMinusOne() {
        Expect.due("NONE", -1, RoamBooks.NONE);
    }

    static void noPlaceReceivesANetwork() {
        RoamBooks x = new RoamBooks();
        for (int place = 0; place < 8; place++) {
            Expect.due("received at " + place, 0, x.reach(place, 0));
        }
    }

    static void noNetworkIsDead() {
        RoamBooks x = new RoamBooks();
        for (int network = 0; network < 6; network++) {
            Expect.due("dead " + network, false, x.dead(network, true));
        }
    }

    static void noAgreementIsTold() {
        RoamBooks x = new RoamBooks();
        x.reach(0, 63);
        x.subscriber(0, 0, 0);
        for (int network = 1; network < 6; network++) {
            Expect.due("attach abroad", 4, x.attach(0, network));
        }
        Expect.due("the first agreement", 1, x.agree(0, 1, 0, 1, 0, 0, 0));
    }

    static void noHomeHasAFavourite() {
        RoamBooks x = new RoamBooks();
        for (int home = 0; home < 6; home++) {
            Expect.due("favourite of " + home, RoamBooks.NONE, x.steer(home, RoamBooks.NONE));
        }
    }

    static void pricesOfEachHomeAreTenFiftyTwenty() {
        for (int home = 0; home < 6; home++) {
            int abroad = (home + 1) % 6;
            RoamBooks x = Scene.receiving(63);
            x.agree(home, abroad, 0, 1, 0, 0, 0);
            x.subscriber(home, 0, 0);
            x.subscriber(abroad, 0, 0);
            x.attach(0, home);
            x.attach(1, abroad);
            x.call(0, 1, 60);
            Expect.due("at home in " + home, 10, x.subscriberIs(0, 3));
            x.attach(0, abroad);
            x.call(0, 1, 60);
            Expect.due("and abroad", 10 + 50, x.subscriberIs(0, 3));
            x.call(1, 0, 60);
            Expect.due("and called abroad", 10 + 50 + 20, x.subscriberIs(0, 3));
        }
    }

    static void noNoticeIsToBeLost() {
        RoamBooks x = new RoamBooks();
        for (int network = 0; network < 6; network++) {
            Expect.due("lose " + network, 0, x.lose(network, 0));
        }
    }

    static void eachBookIsEmpty() {
        RoamBooks x = new RoamBooks();
        for (int network = 0; network < 6; network++) {
            Expect.due("crash " + network, 0, x.crash(network));
        }
    }

    static void noSubscriberIsTold() {
        RoamBooks x = new RoamBooks();
        Expect.noSuch("where", () -> x.where(0));
        Expect.due("the first", 0, x.subscriber(0, 0, 0));
    }

    static void nothingIsRecordedOrOwed() {
        RoamBooks x = new RoamBooks();
        for (int i = 0; i < 36; i++) {
            for (int what = 0; what < 4; what++) {
                Expect.due("recorded", 0, x.recorded(i / 6, i % 6, what));
            }
            Expect.due("owes", 0, x.owes(i / 6, i % 6));
            Expect.due("owesAnew", 0, x.owesAnew(i / 6, i % 6));
        }
    }

    static void noFileIsThere() {
        for (int i = 0; i < 36; i++) {
            RoamBooks x = new RoamBooks();
            int visited = i / 6;
            int home = i % 6;
            Expect.noSuch("deliver", () -> x.deliver(visited, home, 0));
            Expect.notNow("file", () -> x.file(visited, home));
        }
    }

    static void theMinuteIsZero() {
        RoamBooks x = Scene.one();
        x.attach(0, 0);
        Expect.due("contact", 0, x.contact(0, 0));
        Expect.due("one minute later", 1, x.pass(1));
    }

    static void twoObjectsKnowNothingOfEachOther() {
        Scene.busy();
        RoamBooks x = new RoamBooks();
        Expect.noSuch("where", () -> x.where(0));
        Expect.due("received", 0, x.reach(0, 0));
        Expect.due("dead", false, x.dead(5, false));
        Expect.due("favourite", RoamBooks.NONE, x.steer(0, RoamBooks.NONE));
        Expect.due("to be lost", 0, x.lose(1, 0));
        Expect.due("agreements", 1, x.agree(0, 1, 0, 1, 0, 0, 0));
        Expect.due("the minute", 1, x.pass(1));
    }

    static void theCall512IsAnsweredStill() {
        RoamBooks x = new RoamBooks();
        for (int i = 1; i <= 512; i++) {
            Expect.due("call " + i, i, x.pass(1));
        }
    }
}
