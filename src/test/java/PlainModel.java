import java.util.ArrayList;
import java.util.HashMap;
import java.util.List;
import java.util.Map;
import java.util.TreeMap;

/**
 * The document once more, written another way: it keeps what was told and works each answer out anew,
 * minute by minute. RandomRunsTest compares the class with it.
 */
final class PlainModel {
    private record Agreed(int home, int visited, int from, int to, int price, int threshold, int lower) {
    }

    private record Payment(int who, int amount, boolean abroad, int when) {
    }

    private record Line(int visited, int home, int minutes, int when, int agreementsTold) {
    }

    private static final class Phone {
        int home;
        int place;
        int card;
        int at = -1;
        int tries;
        int cap = 5000;
        boolean consents;
    }

    private final Map<Integer, Integer> heard = new HashMap<>();
    private final Map<Integer, Boolean> deadOnes = new HashMap<>();
    private final Map<Integer, Integer> favourites = new HashMap<>();
    private final Map<Integer, int[]> tariffs = new HashMap<>();
    private final Map<Integer, Integer> losing = new HashMap<>();
    private final Map<Integer, Integer> notes = new HashMap<>();
    private final List<Map<Integer, Integer>> books = new ArrayList<>();
    private final List<Agreed> agreed = new ArrayList<>();
    private final List<Phone> phones = new ArrayList<>();
    private final List<Payment> payments = new ArrayList<>();
    private final List<Line> lines = new ArrayList<>();
    private final Map<Line, Integer> fileOf = new java.util.IdentityHashMap<>();
    private final Map<Line, Boolean> fates = new java.util.IdentityHashMap<>();
    private final Map<Integer, Integer> fileCounts = new HashMap<>();
    private final Map<Integer, Integer> taken = new HashMap<>();
    private int callsMade = 0;
    private int now = 0;

    PlainModel() {
        for (int i = 0; i < 6; i++) {
            books.add(new TreeMap<>());
        }
    }

    private static void there(boolean is) {
        if (!is) {
            throw new IndexOutOfBoundsException();
        }
    }

    private static void fits(boolean is) {
        if (!is) {
            throw new IllegalArgumentException();
        }
    }

    private static void may(boolean is) {
        if (!is) {
            throw new IllegalStateException();
        }
    }

    private static boolean net(int n) {
        return 0 <= n && n <= 5;
    }

    private boolean phone(int s) {
        return 0 <= s && s < phones.size();
    }

    private boolean hears(int place, int network) {
        return Integer.toBinaryString(64 + heard.getOrDefault(place, 0)).charAt(6 - network) == '1';
    }

    private boolean isDead(int network) {
        return deadOnes.getOrDefault(network, false);
    }

    private Agreed agreedAt(int home, int visited, int when, int told) {
        Agreed found = null;
        for (Agreed a : agreed.subList(0, told)) {
            if (a.home == home && a.visited == visited && when >= a.from && when < a.to) {
                found = a;
            }
        }
        return found;
    }

    public int reach(int place, int networks) {
        there(place >= 0 && place < 8);
        fits(networks >= 0 && networks < 64);
        Integer before = heard.put(place, networks);
        for (Phone p : phones) {
            if (p.place == place && p.at >= 0 && !hears(place, p.at)) {
                p.at = -1;
            }
        }
        return before == null ? 0 : before;
    }

    public boolean dead(int network, boolean is) {
        there(net(network));
        boolean was = isDead(network);
        deadOnes.put(network, is);
        if (is) {
            phones.stream().filter(p -> p.at == network).forEach(p -> p.at = -1);
            books.get(network).clear();
        }
        return was;
    }

    public int agree(int home, int visited, int from, int to, int price, int threshold, int lower) {
        there(net(home) && net(visited));
        fits(home != visited && from >= 0 && from <= 999999 && to > from && to <= 1000000);
        fits(price >= 0 && price <= 99 && threshold >= 0 && threshold <= 9999 && lower >= 0 && lower <= price);
        may(agreed.size() < 30);
        agreed.add(new Agreed(home, visited, from, to, price, threshold, lower));
        return agreed.size();
    }

    public int steer(int home, int network) {
        there(net(home) && (network == -1 || net(network)));
        fits(home != network);
        Integer before = favourites.put(home, network);
        return before == null ? -1 : before;
    }

    public void prices(int home, int atHome, int abroad, int called) {
        there(net(home));
        for (int price : new int[] {atHome, abroad, called}) {
            fits(price >= 0 && price <= 99);
        }
        tariffs.put(home, new int[] {atHome, abroad, called});
    }

    public int lose(int network, int many) {
        there(net(network));
        fits(many >= 0 && many <= 9);
        Integer left = losing.put(network, many);
        return left == null ? 0 : left;
    }

    public int crash(int network) {
        there(net(network));
        int size = books.get(network).size();
        books.set(network, new TreeMap<>());
        return size;
    }

    public int subscriber(int home, int place, int forbidden) {
        there(net(home) && place >= 0 && place < 8);
        fits(forbidden >= 0 && forbidden < 64);
        may(phones.size() < 10);
        Phone p = new Phone();
        p.home = home;
        p.place = place;
        p.card = forbidden;
        phones.add(p);
        return phones.size() - 1;
    }

    public int move(int subscriber, int place) {
        there(phone(subscriber) && place >= 0 && place < 8);
        Phone p = phones.get(subscriber);
        p.place = place;
        p.tries = 0;
        p.at = p.at >= 0 && hears(place, p.at) ? p.at : -1;
        return p.at;
    }

    public int off(int subscriber) {
        there(phone(subscriber));
        int at = phones.get(subscriber).at;
        phones.get(subscriber).at = -1;
        return at;
    }

    private int hindrance(Phone p, int network) {
        if (!hears(p.place, network)) {
            return 1;
        } else if (isDead(network)) {
            return 2;
        } else if ((p.card & 1 << network) != 0) {
            return 3;
        } else if (p.home != network && agreedAt(p.home, network, now, agreed.size()) == null) {
            return 4;
        }
        return 0;
    }

    public int attach(int subscriber, int network) {
        there(phone(subscriber) && net(network));
        Phone p = phones.get(subscriber);
        may(p.at != network);
        int hindrance = hindrance(p, network);
        int favourite = favourites.getOrDefault(p.home, -1);
        if (hindrance == 0 && favourite != -1 && favourite != network && p.tries < 2
                && hindrance(p, favourite) == 0) {
            hindrance = 5;
            p.tries++;
        }
        if (hindrance == 0) {
            p.at = network;
            p.tries = 0;
            greet(subscriber);
        }
        return hindrance;
    }

    private void greet(int subscriber) {
        int at = phones.get(subscriber).at;
        books.get(at).put(subscriber, now);
        if (losing.getOrDefault(at, 0) > 0) {
            losing.merge(at, -1, Integer::sum);
        } else {
            Integer old = notes.put(subscriber, at);
            if (old != null && old != at) {
                books.get(old).remove(subscriber);
            }
        }
    }

    public int emergency(int subscriber) {
        there(phone(subscriber));
        Phone p = phones.get(subscriber);
        if (p.at >= 0) {
            return p.at;
        }
        for (int i = 0; i < 6; i++) {
            if (hears(p.place, i) && !isDead(i)) {
                return i;
            }
        }
        return -1;
    }

    public int where(int subscriber) {
        there(phone(subscriber));
        return notes.getOrDefault(subscriber, -1);
    }

    public int contact(int network, int subscriber) {
        there(net(network) && phone(subscriber));
        return books.get(network).getOrDefault(subscriber, -1);
    }

    public boolean agrees(int subscriber) {
        there(phone(subscriber));
        int at = phones.get(subscriber).at;
        List<Integer> in = new ArrayList<>();
        for (int i = 0; i < 6; i++) {
            if (books.get(i).containsKey(subscriber)) {
                in.add(i);
            }
        }
        return at < 0 ? in.isEmpty() : in.equals(List.of(at)) && where(subscriber) == at;
    }

    private int spent(int subscriber) {
        return payments.stream()
                .filter(p -> p.who == subscriber && p.abroad && p.when / 43200 == now / 43200)
                .mapToInt(Payment::amount).sum();
    }

    public int subscriberIs(int subscriber, int what) {
        there(phone(subscriber));
        fits(what >= 0 && what <= 6);
        Phone p = phones.get(subscriber);
        long hundredths = 80L * p.cap;
        return new int[] {p.at, p.place, p.tries, paidAnew(subscriber), spent(subscriber),
            100L * spent(subscriber) < hundredths ? 0 : 1, p.cap}[what];
    }

    public void cap(int subscriber, int cap, boolean consents) {
        there(phone(subscriber));
        fits(cap >= 0 && cap <= 99999);
        phones.get(subscriber).cap = cap;
        phones.get(subscriber).consents = consents;
    }

    private int priceOf(Phone p, int which) {
        return tariffs.getOrDefault(p.home, new int[] {10, 50, 20})[which];
    }

    private boolean cut(int subscriber, int amount) {
        Phone p = phones.get(subscriber);
        return p.at != p.home && !p.consents && spent(subscriber) + amount > p.cap;
    }

    public int call(int subscriber, int other, int seconds) {
        there(phone(subscriber) && phone(other));
        fits(subscriber != other && seconds >= 1 && seconds <= 36000);
        may(callsMade < 200);
        Phone a = phones.get(subscriber);
        Phone b = phones.get(other);
        int note = where(other);
        if (a.at < 0) {
            return 1;
        } else if (note < 0) {
            return 2;
        } else if (contact(note, other) < 0) {
            return 3;
        } else if (b.at != note) {
            return 4;
        }
        int minutes = (int) Math.ceil(seconds / 60.0);
        int forCaller = minutes * priceOf(a, a.at == a.home ? 0 : 1);
        int forOther = b.at == b.home ? 0 : minutes * priceOf(b, 2);
        if (cut(subscriber, forCaller)) {
            return 5;
        } else if (cut(other, forOther)) {
            return 6;
        }
        callsMade++;
        payments.add(new Payment(subscriber, forCaller, a.at != a.home, now));
        payments.add(new Payment(other, forOther, b.at != b.home, now));
        for (Phone p : new Phone[] {a, b}) {
            if (p.at != p.home) {
                lines.add(new Line(p.at, p.home, minutes, now, agreed.size()));
            }
        }
        return 0;
    }

    public int paidAnew(int subscriber) {
        there(phone(subscriber));
        return payments.stream().filter(p -> p.who == subscriber).mapToInt(Payment::amount).sum();
    }

    private List<Line> linesOf(int visited, int home) {
        return lines.stream().filter(l -> l.visited == visited && l.home == home).toList();
    }

    public int file(int visited, int home) {
        there(net(visited) && net(home));
        List<Line> rest = linesOf(visited, home).stream().filter(l -> !fileOf.containsKey(l)).toList();
        int number = fileCounts.getOrDefault(10 * visited + home, 0);
        may(!rest.isEmpty() && number < 20);
        rest.forEach(l -> fileOf.put(l, number));
        fileCounts.put(10 * visited + home, number + 1);
        return number;
    }

    public int deliver(int visited, int home, int file) {
        there(net(visited) && net(home));
        int pair = 10 * visited + home;
        there(file >= 0 && file < fileCounts.getOrDefault(pair, 0));
        int next = taken.getOrDefault(pair, 0);
        if (file != next) {
            return file < next ? -1 : -2;
        }
        taken.put(pair, next + 1);
        int back = 0;
        for (Line l : linesOf(visited, home)) {
            if (fileOf.getOrDefault(l, -1) == file) {
                fates.put(l, now - l.when < 43200);
                back += now - l.when < 43200 ? 0 : 1;
            }
        }
        return back;
    }

    public int owes(int home, int visited) {
        there(net(visited) && net(home));
        int all = recorded(visited, home, 2);
        int sum = 0;
        for (Line l : linesOf(visited, home)) {
            Agreed a = agreedAt(home, visited, l.when, l.agreementsTold);
            if (fates.getOrDefault(l, false) && a != null) {
                sum += l.minutes * (a.threshold != 0 && all >= a.threshold ? a.lower : a.price);
            }
        }
        return sum;
    }

    public int owesAnew(int home, int visited) {
        return owes(home, visited);
    }

    public int recorded(int visited, int home, int what) {
        there(net(visited) && net(home));
        fits(what >= 0 && what <= 3);
        int sum = 0;
        for (Line l : linesOf(visited, home)) {
            int is = !fileOf.containsKey(l) ? 0 : !fates.containsKey(l) ? 1 : fates.get(l) ? 2 : 3;
            sum += is == what ? l.minutes : 0;
        }
        return sum;
    }

    public int pass(int minutes) {
        fits(minutes >= 1 && minutes <= 50000);
        may(now + minutes <= 999999);
        for (int i = 0; i < minutes; i++) {
            now++;
            if (now % 60 == 0) {
                for (int s = 0; s < phones.size(); s++) {
                    if (phones.get(s).at >= 0) {
                        greet(s);
                    }
                }
                for (Map<Integer, Integer> book : books) {
                    book.values().removeIf(latest -> now - latest >= 180);
                }
            }
        }
        return now;
    }
}
