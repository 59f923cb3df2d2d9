/** What several tests begin with. */
final class Scene {
    static final int FOREVER = 1000000;
    static final int LAST_MINUTE = 999999;
    static final int MONTH = 43200;

    private Scene() {
    }

    /** The set is received at place 0. */
    static RoamBooks receiving(int set) {
        RoamBooks x = new RoamBooks();
        x.reach(0, set);
        return x;
    }

    /** The networks 0 to 2 are received at place 0, and subscriber 0 is there, of home 0. */
    static RoamBooks one() {
        RoamBooks x = receiving(7);
        x.subscriber(0, 0, 0);
        return x;
    }

    /** The same, and home 0 has agreements with 1 and 2. */
    static RoamBooks oneWhoMayRoam() {
        RoamBooks x = one();
        x.agree(0, 1, 0, FOREVER, 5, 0, 5);
        x.agree(0, 2, 0, FOREVER, 3, 0, 3);
        return x;
    }

    /** The same, and 1 is the favourite of home 0. */
    static RoamBooks steered() {
        RoamBooks x = oneWhoMayRoam();
        x.steer(0, 1);
        return x;
    }

    /** Subscriber 0 is of home 0, and abroad in 1; subscriber 1 is of home 1, and at home. */
    static RoamBooks guestAndHost() {
        return guestAndHost(5, 0, 5);
    }

    static RoamBooks guestAndHost(int price, int threshold, int lower) {
        RoamBooks x = one();
        x.agree(0, 1, 0, FOREVER, price, threshold, lower);
        x.subscriber(1, 0, 0);
        x.attach(0, 1);
        x.attach(1, 1);
        return x;
    }

    /** The same, and the guest consents to more than its cap. */
    static RoamBooks talkers(int price, int threshold, int lower) {
        RoamBooks x = guestAndHost(price, threshold, lower);
        x.cap(0, 0, true);
        return x;
    }

    static RoamBooks talkers() {
        return talkers(5, 0, 5);
    }

    /** 0 calls 1, and the call does not fail. */
    static void talk(RoamBooks x, int minutes) {
        Expect.due("call", 0, x.call(0, 1, minutes * 60));
    }

    static int talkAndFile(RoamBooks x, int minutes) {
        talk(x, minutes);
        return x.file(1, 0);
    }

    static void talkAndDeliver(RoamBooks x, int minutes) {
        Expect.due("deliver", 0, x.deliver(1, 0, talkAndFile(x, minutes)));
    }

    /** As many calls as may be, each as long as may be, of two of home 0 who are both abroad in 1. */
    static RoamBooks allThatTwoGuestsCanTalk() {
        RoamBooks x = one();
        x.subscriber(0, 0, 0);
        x.agree(0, 1, 0, FOREVER, 99, 0, 99);
        for (int s = 0; s < 2; s++) {
            x.attach(s, 1);
            x.cap(s, 0, true);
        }
        for (int i = 0; i < 200; i++) {
            talk(x, 600);
        }
        return x;
    }

    /** Networks 0 and 5 have each recorded a minute for the other one. */
    static RoamBooks zeroAndFive() {
        RoamBooks x = receiving(33);
        x.subscriber(0, 0, 0);
        x.subscriber(5, 0, 0);
        x.agree(0, 5, 0, 1, 3, 0, 3);
        x.agree(5, 0, 0, 1, 4, 0, 4);
        x.attach(0, 5);
        x.attach(1, 0);
        talk(x, 1);
        return x;
    }

    /** Ten subscribers of home 0 at place 0, attached to none. */
    static RoamBooks ten() {
        RoamBooks x = receiving(7);
        for (int i = 0; i < 10; i++) {
            x.subscriber(0, 0, 0);
        }
        return x;
    }

    /** So much is told that a call which wrongly changes something would be seen. */
    static RoamBooks busy() {
        RoamBooks x = receiving(7);
        x.reach(1, 3);
        x.reach(7, 63);
        x.dead(5, true);
        x.agree(0, 1, 0, FOREVER, 5, 10, 2);
        x.agree(1, 0, 0, 500, 9, 0, 9);
        x.agree(0, 2, 0, FOREVER, 3, 0, 3);
        x.prices(1, 11, 51, 21);
        x.subscriber(0, 0, 8);
        x.subscriber(0, 0, 0);
        x.subscriber(1, 0, 0);
        x.subscriber(2, 7, 0);
        x.attach(0, 1);
        x.attach(1, 0);
        x.attach(2, 0);
        x.steer(0, 2);
        x.attach(1, 1);
        x.lose(1, 3);
        x.cap(0, 40, true);
        x.cap(2, 3000, false);
        x.call(0, 1, 61);
        x.file(1, 0);
        x.deliver(1, 0, 0);
        x.call(0, 2, 120);
        x.file(1, 0);
        x.call(1, 0, 1);
        x.pass(61);
        return x;
    }

    static void passTo(RoamBooks x, int now, int minute) {
        int at = now;
        while (at < minute) {
            at = x.pass(Math.min(50000, minute - at));
        }
        Expect.due("the minute", minute, at);
    }
}
