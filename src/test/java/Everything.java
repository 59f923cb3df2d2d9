import java.util.ArrayList;
import java.util.List;

/** All that an object answers, its hidden state too, as texts: what stands after them is used up. */
final class Everything {
    private interface Asked {
        Object answer();
    }

    private final RoamBooks x;
    private final List<String> all = new ArrayList<>();

    private Everything(RoamBooks x) {
        this.x = x;
    }

    static List<String> of(RoamBooks x) {
        Everything everything = new Everything(x);
        int subscribers = everything.askSubscribers();
        everything.askSums();
        everything.tryCalls();
        everything.tryAttaches(subscribers);
        everything.tryFiles();
        everything.tellAnew();
        everything.letTimePass(subscribers);
        return everything.all;
    }

    private boolean ask(String call, Asked asked) {
        try {
            all.add(call + " = " + asked.answer());
            return true;
        } catch (RuntimeException e) {
            all.add(call + " throws " + e.getClass().getName());
            return false;
        }
    }

    private int askSubscribers() {
        int subscribers = 0;
        while (subscribers <= 10 && askSubscriber(subscribers)) {
            subscribers++;
        }
        return subscribers;
    }

    private boolean askSubscriber(int s) {
        boolean isThere = ask("where " + s, () -> x.where(s));
        if (isThere) {
            ask("agrees " + s, () -> x.agrees(s));
            ask("emergency " + s, () -> x.emergency(s));
            ask("paidAnew " + s, () -> x.paidAnew(s));
            for (int i = 0; i < 7; i++) {
                int what = i;
                ask("subscriberIs " + s + " " + what, () -> x.subscriberIs(s, what));
            }
            askContacts(s);
        }
        return isThere;
    }

    private void askContacts(int s) {
        for (int i = 0; i < 6; i++) {
            int network = i;
            ask("contact " + network + " " + s, () -> x.contact(network, s));
        }
    }

    // Of the networks 0 to 2 alone: the tests that compare all use no others for records, and an
    // object has 512 calls.
    private void askSums() {
        for (int i = 0; i < 9; i++) {
            int visited = i / 3;
            int home = i % 3;
            for (int j = 0; j < 4; j++) {
                int what = j;
                ask("recorded " + visited + " " + home + " " + what, () -> x.recorded(visited, home, what));
            }
            ask("owes " + home + " " + visited, () -> x.owes(home, visited));
            ask("owesAnew " + home + " " + visited, () -> x.owesAnew(home, visited));
        }
    }

    // What is paid for them tells the prices and who consents.
    private void tryCalls() {
        for (int i = 0; i < 6; i++) {
            int caller = i / 2;
            int other = (caller + 1 + i % 2) % 3;
            ask("call " + caller + " " + other, () -> x.call(caller, other, 600));
        }
        for (int i = 0; i < 3; i++) {
            int s = i;
            ask("paid by " + s, () -> x.subscriberIs(s, 3));
        }
    }

    private void tryAttaches(int subscribers) {
        for (int i = 0; i < Math.min(subscribers, 4) * 3; i++) {
            int s = i / 3;
            int network = i % 3;
            ask("attach " + s + " " + network, () -> x.attach(s, network));
        }
    }

    private void tryFiles() {
        for (int i = 0; i < 3; i++) {
            int file = i;
            ask("deliver " + file, () -> x.deliver(1, 0, file));
        }
        ask("file", () -> x.file(1, 0));
        ask("file, the other way round", () -> x.file(0, 1));
    }

    private void tellAnew() {
        for (int i = 0; i < 6; i++) {
            int network = i;
            ask("lose " + network, () -> x.lose(network, 0));
            ask("steer " + network, () -> x.steer(network, RoamBooks.NONE));
            ask("dead " + network, () -> x.dead(network, false));
        }
        ask("agree", () -> x.agree(0, 1, 0, 1, 0, 0, 0));
        ask("subscriber", () -> x.subscriber(0, 0, 0));
    }

    private void letTimePass(int subscribers) {
        ask("pass 1", () -> x.pass(1));
        ask("pass 60", () -> x.pass(60));
        for (int s = 0; s < Math.min(subscribers, 4); s++) {
            askContacts(s);
        }
        for (int i = 0; i < 6; i++) {
            int network = i;
            ask("crash " + network, () -> x.crash(network));
        }
        for (int i = 0; i < 8; i++) {
            int place = i;
            ask("reach " + place, () -> x.reach(place, 0));
        }
    }
}
