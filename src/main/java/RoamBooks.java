import java.util.ArrayList;
import java.util.Arrays;

/** Telephones far from home: who is where, what calls cost, and what networks owe each other. */
public final class RoamBooks {
    public static final int NONE = -1;

    private static final int NETWORKS = 6;
    private static final int PLACES = 8;
    private static final int ALL_NETWORKS = 63;
    private static final int MOST_AGREEMENTS = 30;
    private static final int MOST_SUBSCRIBERS = 10;
    private static final int MOST_CALLS = 200;
    private static final int MOST_FILES = 20;
    private static final int MOST_PRICE = 99;
    private static final int MOST_THRESHOLD = 9999;
    private static final int MOST_LOST = 9;
    private static final int MOST_CAP = 99999;
    private static final int MOST_SECONDS = 36000;
    private static final int MOST_PASSING = 50000;

    private static final int LAST_MINUTE = 999999;
    private static final int HOUR = 60;
    private static final int MONTH = 43200;
    private static final int FORGOTTEN_AFTER = 180;
    private static final int TOO_OLD = 43200;
    private static final int SETTLING_HOURS = 12;
    private static final int STEERED_AT_MOST = 2;

    private static final int NOT_RECEIVED = 1;
    private static final int DEAD = 2;
    private static final int FORBIDDEN = 3;
    private static final int NO_AGREEMENT = 4;
    private static final int STEERED = 5;

    private static final int CALLER_NOT_ATTACHED = 1;
    private static final int NO_NOTE = 2;
    private static final int NOT_IN_BOOK = 3;
    private static final int NOT_THERE = 4;
    private static final int CALLER_ABOVE_CAP = 5;
    private static final int OTHER_ABOVE_CAP = 6;

    private static final int NOT_FILED = 0;
    private static final int FILED = 1;
    private static final int TAKEN = 2;
    private static final int SENT_BACK = 3;
    private static final int OUT_OF_ORDER = -2;

    private final int[] received = new int[PLACES];
    private final Network[] networks = new Network[NETWORKS];
    private final Account[] accounts = new Account[NETWORKS * NETWORKS];
    private final ArrayList<Agreement> agreements = new ArrayList<>();
    private final ArrayList<Subscriber> subscribers = new ArrayList<>();
    private final ArrayList<Call> calls = new ArrayList<>();
    private int minute;

    public RoamBooks() {
        for (int i = 0; i < networks.length; i++) {
            networks[i] = new Network();
        }
        for (int i = 0; i < accounts.length; i++) {
            accounts[i] = new Account();
        }
    }

    // ---- networks and agreements

    public int reach(int place, int networks) throws IndexOutOfBoundsException, IllegalArgumentException {
        int before = receivedAt(place);
        requireRange(networks, 0, ALL_NETWORKS);
        received[place] = networks;
        for (int i = 0; i < subscribers.size(); i++) {
            Subscriber who = subscribers.get(i);
            if (who.place == place) {
                detachIfNotReceived(who);
            }
        }
        return before;
    }

    public boolean dead(int network, boolean is) throws IndexOutOfBoundsException {
        Network told = networkAt(network);
        boolean was = told.dead;
        told.dead = is;
        if (is) {
            told.book.clear();
            detachAllFrom(network);
        }
        return was;
    }

    public int agree(int home, int visited, int from, int to, int price, int threshold, int lower)
            throws IndexOutOfBoundsException, IllegalArgumentException, IllegalStateException {
        requireNetwork(home);
        requireNetwork(visited);
        requireDifferent(home, visited);
        requireRange(from, 0, LAST_MINUTE);
        requireRange(to, from + 1, LAST_MINUTE + 1);
        requireRange(price, 0, MOST_PRICE);
        requireRange(threshold, 0, MOST_THRESHOLD);
        requireRange(lower, 0, price);
        requireRoom(agreements.size(), MOST_AGREEMENTS);
        agreements.add(new Agreement(home, visited, from, to, price, threshold, lower));
        return agreements.size();
    }

    public int steer(int home, int network) throws IndexOutOfBoundsException, IllegalArgumentException {
        Network steering = networkAt(home);
        if (network != NONE) {
            requireNetwork(network);
        }
        requireDifferent(home, network);
        int before = steering.favourite;
        steering.favourite = network;
        return before;
    }

    public void prices(int home, int atHome, int abroad, int called)
            throws IndexOutOfBoundsException, IllegalArgumentException {
        Network network = networkAt(home);
        requireRange(atHome, 0, MOST_PRICE);
        requireRange(abroad, 0, MOST_PRICE);
        requireRange(called, 0, MOST_PRICE);
        network.priceAtHome = atHome;
        network.priceAbroad = abroad;
        network.priceCalled = called;
    }

    public int lose(int network, int many) throws IndexOutOfBoundsException, IllegalArgumentException {
        Network losing = networkAt(network);
        requireRange(many, 0, MOST_LOST);
        int left = losing.noticesToLose;
        losing.noticesToLose = many;
        return left;
    }

    public int crash(int network) throws IndexOutOfBoundsException {
        Book book = networkAt(network).book;
        int were = book.count();
        book.clear();
        return were;
    }

    // ---- subscribers

    public int subscriber(int home, int place, int forbidden)
            throws IndexOutOfBoundsException, IllegalArgumentException, IllegalStateException {
        requireNetwork(home);
        requirePlace(place);
        requireRange(forbidden, 0, ALL_NETWORKS);
        requireRoom(subscribers.size(), MOST_SUBSCRIBERS);
        Subscriber who = new Subscriber(subscribers.size(), home, place, forbidden);
        subscribers.add(who);
        return who.number;
    }

    public int move(int subscriber, int place) throws IndexOutOfBoundsException {
        Subscriber who = subscriberAt(subscriber);
        requirePlace(place);
        who.place = place;
        who.steered = 0;
        detachIfNotReceived(who);
        return who.attached;
    }

    public int off(int subscriber) throws IndexOutOfBoundsException {
        Subscriber who = subscriberAt(subscriber);
        int before = who.attached;
        who.attached = NONE;
        return before;
    }

    public int attach(int subscriber, int network) throws IndexOutOfBoundsException, IllegalStateException {
        Subscriber who = subscriberAt(subscriber);
        requireNetwork(network);
        if (who.attached == network) {
            throw new IllegalStateException("it is attached to that network");
        }
        int why = whyNotUsable(who, network);
        if (why != 0) {
            return why;
        }
        if (isSteered(who, network)) {
            who.steered++;
            return STEERED;
        }
        who.attached = network;
        who.steered = 0;
        makeContact(who, minute);
        return 0;
    }

    public int emergency(int subscriber) throws IndexOutOfBoundsException {
        Subscriber who = subscriberAt(subscriber);
        if (who.attached != NONE) {
            return who.attached;
        }
        int set = receivedAt(who.place);
        for (int i = 0; i < networks.length; i++) {
            if (isIn(set, i) && !networks[i].dead) {
                return i;
            }
        }
        return NONE;
    }

    public int where(int subscriber) throws IndexOutOfBoundsException {
        return subscriberAt(subscriber).note;
    }

    public int contact(int network, int subscriber) throws IndexOutOfBoundsException {
        Book book = networkAt(network).book;
        return book.latest(subscriberAt(subscriber).number);
    }

    public boolean agrees(int subscriber) throws IndexOutOfBoundsException {
        Subscriber who = subscriberAt(subscriber);
        for (int i = 0; i < networks.length; i++) {
            if (networks[i].book.has(who.number) != (i == who.attached)) {
                return false;
            }
        }
        return who.attached == NONE || who.note == who.attached;
    }

    public int subscriberIs(int subscriber, int what) throws IndexOutOfBoundsException, IllegalArgumentException {
        Subscriber who = subscriberAt(subscriber);
        switch (what) {
            case 0:
                return who.attached;
            case 1:
                return who.place;
            case 2:
                return who.steered;
            case 3:
                return who.paid;
            case 4:
                return who.paidAbroad;
            case 5:
                return who.isWarned() ? 1 : 0;
            case 6:
                return who.cap;
            default:
                throw new IllegalArgumentException("what is out of range");
        }
    }

    // ---- calls

    public void cap(int subscriber, int cap, boolean consents)
            throws IndexOutOfBoundsException, IllegalArgumentException {
        Subscriber who = subscriberAt(subscriber);
        requireRange(cap, 0, MOST_CAP);
        who.cap = cap;
        who.consents = consents;
    }

    public int call(int subscriber, int other, int seconds)
            throws IndexOutOfBoundsException, IllegalArgumentException, IllegalStateException {
        Subscriber caller = subscriberAt(subscriber);
        Subscriber called = subscriberAt(other);
        requireDifferent(subscriber, other);
        requireRange(seconds, 1, MOST_SECONDS);
        requireRoom(calls.size(), MOST_CALLS);
        int why = whyNotFound(caller, called);
        if (why != 0) {
            return why;
        }
        int minutes = (seconds + 59) / 60;
        int callerPays = minutes * priceOfCalling(caller);
        int calledPays = minutes * priceOfBeingCalled(called);
        if (caller.wouldComeAboveCap(callerPays)) {
            return CALLER_ABOVE_CAP;
        }
        if (called.wouldComeAboveCap(calledPays)) {
            return OTHER_ABOVE_CAP;
        }
        calls.add(new Call(subscriber, callerPays, other, calledPays));
        settle(caller, callerPays, minutes);
        settle(called, calledPays, minutes);
        return 0;
    }

    public int paidAnew(int subscriber) throws IndexOutOfBoundsException {
        int number = subscriberAt(subscriber).number;
        int sum = 0;
        for (int i = 0; i < calls.size(); i++) {
            sum += calls.get(i).paidBy(number);
        }
        return sum;
    }

    // ---- files and sums

    public int file(int visited, int home) throws IndexOutOfBoundsException, IllegalStateException {
        Account account = accountOf(visited, home);
        if (!account.hasUnfiled()) {
            throw new IllegalStateException("no records are left to file");
        }
        requireRoom(account.files, MOST_FILES);
        return account.fileTheRest();
    }

    public int deliver(int visited, int home, int file) throws IndexOutOfBoundsException {
        Account account = accountOf(visited, home);
        if (file < 0 || file >= account.files) {
            throw new IndexOutOfBoundsException("no such file");
        }
        if (file < account.filesTaken) {
            return NONE;
        }
        if (file > account.filesTaken) {
            return OUT_OF_ORDER;
        }
        return account.takeNextFile(minute);
    }

    public int owes(int home, int visited) throws IndexOutOfBoundsException {
        return accountOf(visited, home).owed();
    }

    public int owesAnew(int home, int visited) throws IndexOutOfBoundsException {
        return accountOf(visited, home).owedFileByFile();
    }

    public int recorded(int visited, int home, int what) throws IndexOutOfBoundsException, IllegalArgumentException {
        Account account = accountOf(visited, home);
        requireRange(what, NOT_FILED, SENT_BACK);
        return account.minutesThatAre(what);
    }

    public int pass(int minutes) throws IllegalArgumentException, IllegalStateException {
        requireRange(minutes, 1, MOST_PASSING);
        if (minutes > LAST_MINUTE - minute) {
            throw new IllegalStateException("time ends before that");
        }
        int then = minute + minutes;
        beginHours(minute / HOUR + 1, then / HOUR);
        if (then / MONTH != minute / MONTH) {
            beginMonth();
        }
        minute = then;
        return minute;
    }

    // ---- what the calls share

    private static void requireRange(int value, int least, int most) {
        if (value < least || value > most) {
            throw new IllegalArgumentException("an argument is out of range");
        }
    }

    private static void requireDifferent(int one, int other) {
        if (one == other) {
            throw new IllegalArgumentException("both are the same");
        }
    }

    private static void requireRoom(int there, int most) {
        if (there >= most) {
            throw new IllegalStateException("there are as many as there may be");
        }
    }

    private void requireNetwork(int network) {
        if (network < 0 || network >= networks.length) {
            throw new IndexOutOfBoundsException("no such network");
        }
    }

    private void requirePlace(int place) {
        if (place < 0 || place >= received.length) {
            throw new IndexOutOfBoundsException("no such place");
        }
    }

    private Network networkAt(int network) {
        requireNetwork(network);
        return networks[network];
    }

    private int receivedAt(int place) {
        requirePlace(place);
        return received[place];
    }

    private Subscriber subscriberAt(int subscriber) {
        if (subscriber < 0 || subscriber >= subscribers.size()) {
            throw new IndexOutOfBoundsException("no such subscriber");
        }
        return subscribers.get(subscriber);
    }

    private Account accountOf(int visited, int home) {
        requireNetwork(visited);
        requireNetwork(home);
        return accounts[visited * NETWORKS + home];
    }

    private static boolean isIn(int set, int network) {
        return (set >> network & 1) == 1;
    }

    private void detachIfNotReceived(Subscriber who) {
        if (who.attached != NONE && !isIn(receivedAt(who.place), who.attached)) {
            who.attached = NONE;
        }
    }

    private void detachAllFrom(int network) {
        for (int i = 0; i < subscribers.size(); i++) {
            Subscriber who = subscribers.get(i);
            if (who.attached == network) {
                who.attached = NONE;
            }
        }
    }

    private Agreement agreementNow(int home, int visited) {
        for (int i = agreements.size() - 1; i >= 0; i--) {
            Agreement agreement = agreements.get(i);
            if (agreement.holds(home, visited, minute)) {
                return agreement;
            }
        }
        return null;
    }

    private int whyNotUsable(Subscriber who, int network) {
        if (!isIn(receivedAt(who.place), network)) {
            return NOT_RECEIVED;
        }
        if (networkAt(network).dead) {
            return DEAD;
        }
        if (isIn(who.forbidden, network)) {
            return FORBIDDEN;
        }
        if (network != who.home && agreementNow(who.home, network) == null) {
            return NO_AGREEMENT;
        }
        return 0;
    }

    private boolean isSteered(Subscriber who, int network) {
        int favourite = networkAt(who.home).favourite;
        return favourite != NONE && favourite != network && who.steered < STEERED_AT_MOST
                && whyNotUsable(who, favourite) == 0;
    }

    private void makeContact(Subscriber who, int when) {
        Network network = networkAt(who.attached);
        network.book.put(who.number, when);
        if (network.noticesToLose > 0) {
            network.noticesToLose--;
            return;
        }
        if (who.note != NONE && who.note != who.attached) {
            networkAt(who.note).book.takeOut(who.number);
        }
        who.note = who.attached;
    }

    // Nobody attaches while time passes, at most 9 notices of a network get lost and old contacts are
    // gone after some 3 hours: once settled, each hour is like the one before but for its minute.
    private void beginHours(int first, int last) {
        int settled = Math.min(last, first + SETTLING_HOURS - 1);
        for (int hour = first; hour <= settled; hour++) {
            beginHour(hour * HOUR);
        }
        if (settled < last) {
            beginHour(last * HOUR);
        }
    }

    private void beginHour(int when) {
        for (int i = 0; i < subscribers.size(); i++) {
            Subscriber who = subscribers.get(i);
            if (who.attached != NONE) {
                makeContact(who, when);
            }
        }
        for (int i = 0; i < networks.length; i++) {
            networks[i].book.takeOutUpTo(when - FORGOTTEN_AFTER);
        }
    }

    private void beginMonth() {
        for (int i = 0; i < subscribers.size(); i++) {
            subscribers.get(i).paidAbroad = 0;
        }
    }

    private int whyNotFound(Subscriber caller, Subscriber called) {
        if (caller.attached == NONE) {
            return CALLER_NOT_ATTACHED;
        }
        if (called.note == NONE) {
            return NO_NOTE;
        }
        if (!networkAt(called.note).book.has(called.number)) {
            return NOT_IN_BOOK;
        }
        return called.attached == called.note ? 0 : NOT_THERE;
    }

    private int priceOfCalling(Subscriber who) {
        Network home = networkAt(who.home);
        return who.isAbroad() ? home.priceAbroad : home.priceAtHome;
    }

    private int priceOfBeingCalled(Subscriber who) {
        return who.isAbroad() ? networkAt(who.home).priceCalled : 0;
    }

    private void settle(Subscriber who, int pays, int minutes) {
        who.paid += pays;
        if (who.isAbroad()) {
            who.paidAbroad += pays;
            Agreement agreement = agreementNow(who.home, who.attached);
            accountOf(who.attached, who.home).records.add(new CallRecord(minutes, minute, agreement));
        }
    }

    /** What holds for the subscribers of one network, and for those who use it. */
    private static final class Network {
        final Book book = new Book();
        boolean dead;
        int favourite = NONE;
        int priceAtHome = 10;
        int priceAbroad = 50;
        int priceCalled = 20;
        int noticesToLose;
    }

    /** Who is at a network, each with the minute of the latest contact. */
    private static final class Book {
        private final int[] contacts = new int[MOST_SUBSCRIBERS];

        Book() {
            Arrays.fill(contacts, NONE);
        }

        int latest(int number) {
            return isLine(number) ? contacts[number] : NONE;
        }

        boolean has(int number) {
            return latest(number) != NONE;
        }

        void put(int number, int when) {
            if (isLine(number)) {
                contacts[number] = when;
            }
        }

        void takeOut(int number) {
            put(number, NONE);
        }

        void takeOutUpTo(int when) {
            for (int i = 0; i < contacts.length; i++) {
                if (contacts[i] <= when) {
                    contacts[i] = NONE;
                }
            }
        }

        void clear() {
            Arrays.fill(contacts, NONE);
        }

        int count() {
            int count = 0;
            for (int i = 0; i < contacts.length; i++) {
                if (contacts[i] != NONE) {
                    count++;
                }
            }
            return count;
        }

        private boolean isLine(int number) {
            return number >= 0 && number < contacts.length;
        }
    }

    private static final class Subscriber {
        final int number;
        final int home;
        final int forbidden;
        int place;
        int attached = NONE;
        int note = NONE;
        int steered;
        int cap = 5000;
        boolean consents;
        int paid;
        int paidAbroad;

        Subscriber(int number, int home, int place, int forbidden) {
            this.number = number;
            this.home = home;
            this.place = place;
            this.forbidden = forbidden;
        }

        boolean isAbroad() {
            return attached != NONE && attached != home;
        }

        boolean wouldComeAboveCap(int pays) {
            return isAbroad() && !consents && paidAbroad + pays > cap;
        }

        // Multiplied on both sides, since a hundredth of the cap would be rounded.
        boolean isWarned() {
            return paidAbroad * 100L >= cap * 80L;
        }
    }

    private static final class Agreement {
        private final int home;
        private final int visited;
        private final int from;
        private final int to;
        private final int price;
        private final int threshold;
        private final int lower;

        Agreement(int home, int visited, int from, int to, int price, int threshold, int lower) {
            this.home = home;
            this.visited = visited;
            this.from = from;
            this.to = to;
            this.price = price;
            this.threshold = threshold;
            this.lower = lower;
        }

        boolean holds(int ofHome, int atVisited, int when) {
            return home == ofHome && visited == atVisited && from <= when && when < to;
        }

        int priceAt(int minutesTaken) {
            return threshold > 0 && minutesTaken >= threshold ? lower : price;
        }
    }

    /** A call that did not fail, kept so that what was paid can be found anew. */
    private static final class Call {
        private final int caller;
        private final int callerPaid;
        private final int called;
        private final int calledPaid;

        Call(int caller, int callerPaid, int called, int calledPaid) {
            this.caller = caller;
            this.callerPaid = callerPaid;
            this.called = called;
            this.calledPaid = calledPaid;
        }

        int paidBy(int number) {
            if (number == caller) {
                return callerPaid;
            }
            return number == called ? calledPaid : 0;
        }
    }

    private static final class CallRecord {
        final int minutes;
        final int made;
        // Kept from when the record was made, since later agreements must not change its price.
        private final Agreement agreement;
        int state = NOT_FILED;
        int inFile = NONE;

        CallRecord(int minutes, int made, Agreement agreement) {
            this.minutes = minutes;
            this.made = made;
            this.agreement = agreement;
        }

        int owed(int minutesTaken) {
            if (state != TAKEN || agreement == null) {
                return 0;
            }
            return minutes * agreement.priceAt(minutesTaken);
        }
    }

    /** The records that one network made for one home, and their files. */
    private static final class Account {
        final ArrayList<CallRecord> records = new ArrayList<>();
        int files;
        // Files are taken in order alone, so their number tells which ones they are.
        int filesTaken;

        int minutesThatAre(int state) {
            int sum = 0;
            for (int i = 0; i < records.size(); i++) {
                CallRecord record = records.get(i);
                if (record.state == state) {
                    sum += record.minutes;
                }
            }
            return sum;
        }

        boolean hasUnfiled() {
            return minutesThatAre(NOT_FILED) > 0;
        }

        int fileTheRest() {
            int number = files;
            for (int i = 0; i < records.size(); i++) {
                CallRecord record = records.get(i);
                if (record.state == NOT_FILED) {
                    record.state = FILED;
                    record.inFile = number;
                }
            }
            files++;
            return number;
        }

        int takeNextFile(int now) {
            int sentBack = 0;
            for (int i = 0; i < records.size(); i++) {
                CallRecord record = records.get(i);
                if (record.inFile != filesTaken) {
                    continue;
                }
                if (now - record.made >= TOO_OLD) {
                    record.state = SENT_BACK;
                    sentBack++;
                } else {
                    record.state = TAKEN;
                }
            }
            filesTaken++;
            return sentBack;
        }

        int owed() {
            int minutesTaken = minutesThatAre(TAKEN);
            int sum = 0;
            for (int i = 0; i < records.size(); i++) {
                sum += records.get(i).owed(minutesTaken);
            }
            return sum;
        }

        int owedFileByFile() {
            int minutesTaken = 0;
            for (int file = 0; file < filesTaken; file++) {
                minutesTaken += minutesTakenIn(file);
            }
            int sum = 0;
            for (int file = 0; file < filesTaken; file++) {
                sum += owedIn(file, minutesTaken);
            }
            return sum;
        }

        private int minutesTakenIn(int file) {
            int sum = 0;
            for (int i = 0; i < records.size(); i++) {
                CallRecord record = records.get(i);
                if (record.inFile == file && record.state == TAKEN) {
                    sum += record.minutes;
                }
            }
            return sum;
        }

        private int owedIn(int file, int minutesTaken) {
            int sum = 0;
            for (int i = 0; i < records.size(); i++) {
                CallRecord record = records.get(i);
                if (record.inFile == file) {
                    sum += record.owed(minutesTaken);
                }
            }
            return sum;
        }
    }
}
