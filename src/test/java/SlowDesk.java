import java.util.ArrayList;
import java.util.List;

/** The document once more, by trying everything: slow, and written apart from the program. */
final class SlowDesk {
    record Ride(int from, int leaves, int to, int comes) { }

    record Spell(int town, int first, int last) { }

    static final class Taken {
        int ride;
        int awake;
        int load;
    }

    static final class Courier {
        int town;
        int hour;
        final List<Taken> taken = new ArrayList<>();
    }

    record Leg(int courier, int index, int ride) { }

    record Seal(int hour, int holder) { }

    static final class Bag {
        int from;
        int hour;
        int to;
        int weight;
        int rank;
        int due;
        List<Leg> way;
        final List<Seal> seals = new ArrayList<>();
    }

    final List<Ride> rides = new ArrayList<>();
    final List<Spell> spells = new ArrayList<>();
    final List<Courier> couriers = new ArrayList<>();
    final List<Bag> bags = new ArrayList<>();
    String tape = "";
    int[] rules = {24, 8, 20, 1, 0};

    private static boolean town(int t) {
        return t >= 0 && t <= 7;
    }

    private static boolean hour(int h) {
        return h >= 0 && h <= 999;
    }

    private boolean goes(Ride r) {
        for (Spell s : spells) {
            if (s.town == r.from && s.first <= r.leaves && r.leaves <= s.last) {
                return false;
            }
            if (s.town == r.to && s.first <= r.comes && r.comes <= s.last) {
                return false;
            }
        }
        return true;
    }

    int ride(int from, int leaves, int to, int comes) {
        boolean told = town(from) && town(to) && from != to && hour(leaves) && hour(comes) && comes > leaves
            && comes - leaves <= 99;
        if (!told || rides.size() == 60) {
            return -1;
        }
        rides.add(new Ride(from, leaves, to, comes));
        return rides.size() - 1;
    }

    int shut(int t, int first, int last) {
        if (!town(t) || !hour(first) || !hour(last) || last < first || spells.size() == 20) {
            return -1;
        }
        spells.add(new Spell(t, first, last));
        return spells.size();
    }

    int feed(int a, int b, int c, int d, int e) {
        if (tape.length() > 80) {
            return -1;
        }
        int[] numbers = {a, b, c, d, e};
        for (int n : numbers) {
            tape += "" + (char) (n >>> 24) + (char) (n >>> 16 & 255) + (char) (n >>> 8 & 255) + (char) (n & 255);
        }
        return tape.length();
    }

    int end(int n) {
        if (n < 0 || n > tape.length()) {
            return -1;
        }
        tape = tape.substring(0, n);
        return n;
    }

    private static final String[] WORDS = {"wake", "rest", "carry", "pay", "wait"};
    private static final int[] LEAST = {1, 1, 1, 0, 0};
    private static final int[] MOST = {99, 24, 99, 99, 99};

    /** A machine of states over tokens: 0 a word is due, 1 a number, 2 a semicolon or the end. */
    int rules() {
        String text = tape;
        tape = "";
        int[] fresh = {24, 8, 20, 1, 0};
        if (text.replace(" ", "").isEmpty()) {
            rules = fresh;
            return 0;
        }
        List<Integer> told = new ArrayList<>();
        int state = 0;
        int at = 0;
        while (at < text.length()) {
            char c = text.charAt(at);
            if (c == ' ') {
                at++;
                continue;
            }
            String token = token(text.substring(at));
            if (state == 0) {
                int word = java.util.Arrays.asList(WORDS).indexOf(token);
                if (word < 0) {
                    return -2 - (1 + 8 * at);
                }
                if (told.contains(word)) {
                    return -2 - (1 + 8 * at + 2);
                }
                told.add(word);
            } else if (state == 1) {
                if (!Character.isDigit(c) || c > '9') {
                    return -2 - (1 + 8 * at);
                }
                int word = told.get(told.size() - 1);
                if (token.length() > 2 || Integer.parseInt(token) < LEAST[word] || Integer.parseInt(token) > MOST[word]) {
                    return -2 - (1 + 8 * at + 1);
                }
                fresh[word] = Integer.parseInt(token);
            } else if (c != ';') {
                return -2 - (1 + 8 * at);
            }
            state = (state + 1) % 3;
            at += token.length();
        }
        if (state != 2) {
            return -2 - (1 + 8 * text.length());
        }
        rules = fresh;
        return told.size();
    }

    private static String token(String rest) {
        String word = rest.replaceFirst("(?s)[^a-z].*", "");
        String number = rest.replaceFirst("(?s)[^0-9].*", "");
        return !word.isEmpty() ? word : !number.isEmpty() ? number : rest.substring(0, 1);
    }

    int courier(int t, int h) {
        if (!town(t) || !hour(h) || couriers.size() == 6) {
            return -1;
        }
        Courier c = new Courier();
        c.town = t;
        c.hour = h;
        couriers.add(c);
        return couriers.size() - 1;
    }

    private Courier courierOf(int c) {
        return c >= 0 && c < couriers.size() ? couriers.get(c) : null;
    }

    private Taken takenOf(int courier, int i) {
        Courier c = courierOf(courier);
        return c != null && i >= 0 && i < c.taken.size() ? c.taken.get(i) : null;
    }

    int take(int courier, int ride) {
        Courier c = courierOf(courier);
        if (c == null || ride < 0 || ride >= rides.size() || c.taken.size() == 12) {
            return 1;
        }
        Ride r = rides.get(ride);
        Taken last = c.taken.isEmpty() ? null : c.taken.get(c.taken.size() - 1);
        Ride before = last == null ? null : rides.get(last.ride);
        if (r.from != (before == null ? c.town : before.to)) {
            return 2;
        }
        if (r.leaves < (before == null ? c.hour : before.comes)) {
            return 3;
        }
        if (!goes(r)) {
            return 4;
        }
        int awake = r.comes - r.leaves;
        if (before != null && r.leaves - before.comes < rules[1]) {
            awake += last.awake + r.leaves - before.comes;
        }
        if (awake > rules[0]) {
            return 5;
        }
        Taken t = new Taken();
        t.ride = ride;
        t.awake = awake;
        c.taken.add(t);
        return 0;
    }

    int ill(int courier, int h) {
        Courier c = courierOf(courier);
        if (c == null || !hour(h)) {
            return -1;
        }
        int before = c.taken.size();
        c.taken.removeIf(t -> rides.get(t.ride).leaves >= h);
        return before - c.taken.size();
    }

    int taken(int courier, int i) {
        Taken t = takenOf(courier, i);
        return t == null ? -1 : t.ride;
    }

    int awake(int courier, int i) {
        Taken t = takenOf(courier, i);
        return t == null ? -1 : t.awake;
    }

    int load(int courier, int i) {
        Taken t = takenOf(courier, i);
        return t == null ? -1 : t.load;
    }

    int pay(int courier) {
        Courier c = courierOf(courier);
        if (c == null) {
            return -1;
        }
        int rode = 0;
        for (Taken t : c.taken) {
            rode += rides.get(t.ride).comes - rides.get(t.ride).leaves;
        }
        int span = c.taken.isEmpty() ? 0
            : rides.get(c.taken.get(c.taken.size() - 1).ride).comes - rides.get(c.taken.get(0).ride).leaves;
        return rules[3] * rode + rules[4] * (span - rode);
    }

    int bag(int from, int h, int to, int weight, int rank, int due) {
        boolean told = town(from) && hour(h) && town(to) && from != to && weight >= 1 && weight <= 50 && rank >= 0
            && rank <= 9 && hour(due);
        if (!told || bags.size() == 12) {
            return -1;
        }
        Bag b = new Bag();
        b.from = from;
        b.hour = h;
        b.to = to;
        b.weight = weight;
        b.rank = rank;
        b.due = due;
        bags.add(b);
        return bags.size() - 1;
    }

    private Bag bagOf(int b) {
        return b >= 0 && b < bags.size() ? bags.get(b) : null;
    }

    int layOut() {
        List<Leg> legs = new ArrayList<>();
        for (int c = 0; c < couriers.size(); c++) {
            for (int i = 0; i < couriers.get(c).taken.size(); i++) {
                Taken t = couriers.get(c).taken.get(i);
                t.load = 0;
                if (goes(rides.get(t.ride))) {
                    legs.add(new Leg(c, i, t.ride));
                }
            }
        }
        List<Bag> order = new ArrayList<>(bags);
        order.sort((a, b) -> b.rank - a.rank);
        int lost = 0;
        for (Bag b : order) {
            b.way = null;
            b.seals.clear();
            b.seals.add(new Seal(b.hour, 100 + b.from));
            search(b, b.from, b.hour, new ArrayList<>(), legs);
            if (b.way == null) {
                lost++;
            } else {
                for (Leg l : b.way) {
                    takenOf(l.courier, l.index).load += b.weight;
                }
                lead(b);
            }
        }
        return lost;
    }

    /** All ways in the order of their legs, so that a later one must be better to be taken. */
    private void search(Bag b, int t, int h, List<Leg> way, List<Leg> legs) {
        if (t == b.to) {
            if (b.way == null || h < comesOf(b) || h == comesOf(b) && way.size() < b.way.size()) {
                b.way = new ArrayList<>(way);
            }
            return;
        }
        for (Leg l : legs) {
            Ride r = rides.get(l.ride);
            if (r.from == t && r.leaves >= h && takenOf(l.courier, l.index).load + b.weight <= rules[2]) {
                way.add(l);
                search(b, r.to, r.comes, way, legs);
                way.remove(way.size() - 1);
            }
        }
    }

    private int comesOf(Bag b) {
        return rides.get(b.way.get(b.way.size() - 1).ride).comes;
    }

    private void lead(Bag b) {
        for (int i = 0; i < b.way.size(); i++) {
            Leg l = b.way.get(i);
            Leg before = i == 0 ? null : b.way.get(i - 1);
            if (before == null || before.courier != l.courier || before.index + 1 != l.index) {
                if (before != null) {
                    b.seals.add(new Seal(rides.get(before.ride).comes, 100 + rides.get(before.ride).to));
                }
                b.seals.add(new Seal(rides.get(l.ride).leaves, l.courier));
            }
        }
        b.seals.add(new Seal(comesOf(b), 100 + b.to));
    }

    int laid(int bag, int what) {
        Bag b = bagOf(bag);
        if (b == null || what < 0 || what > 3) {
            return -1;
        }
        if (what == 3) {
            return b.seals.size();
        }
        if (b.way == null) {
            return what < 2 ? -1 : 0;
        }
        int[] answers = {comesOf(b), Math.max(0, comesOf(b) - b.due), b.way.size()};
        return answers[what];
    }

    int leg(int bag, int i, int what) {
        Bag b = bagOf(bag);
        if (b == null || b.way == null || i < 0 || i >= b.way.size() || what < 0 || what > 1) {
            return -1;
        }
        return what == 0 ? b.way.get(i).courier : b.way.get(i).ride;
    }

    int hand(int bag, int h) {
        Bag b = bagOf(bag);
        if (b == null || !hour(h) || h < b.hour) {
            return -1;
        }
        if (b.way == null || h < rides.get(b.way.get(0).ride).leaves) {
            return 100 + b.from;
        }
        for (int i = 0; i < b.way.size(); i++) {
            Leg l = b.way.get(i);
            Ride r = rides.get(l.ride);
            if (r.leaves <= h && h < r.comes) {
                return l.courier;
            }
            boolean last = i + 1 == b.way.size();
            if (r.comes <= h && (last || h < rides.get(b.way.get(i + 1).ride).leaves)) {
                boolean keeps = !last && b.way.get(i + 1).courier == l.courier && b.way.get(i + 1).index == l.index + 1;
                return keeps ? l.courier : 100 + r.to;
            }
        }
        throw new IllegalStateException("no hand");
    }

    int seal(int bag, int i, int what) {
        Bag b = bagOf(bag);
        if (b == null || i < 0 || i >= b.seals.size() || what < 0 || what > 1) {
            return -1;
        }
        return what == 0 ? b.seals.get(i).hour : b.seals.get(i).holder;
    }

    int soonest(int t, int h, int to) {
        if (!town(t) || !hour(h) || !town(to)) {
            return -1;
        }
        // by rides taken, then the ride taken last, which hours awake can be had: [awake] of 1 to 99
        int best = t == to ? h : Integer.MAX_VALUE;
        boolean[][] can = new boolean[rides.size()][100];
        for (int number = 1; number <= 12; number++) {
            boolean[][] next = new boolean[rides.size()][100];
            boolean went = false;
            for (int k = 0; k < rides.size(); k++) {
                Ride r = rides.get(k);
                if (!goes(r)) {
                    continue;
                }
                int length = r.comes - r.leaves;
                if (number == 1 && r.from == t && r.leaves >= h && length <= rules[0]) {
                    next[k][length] = true;
                }
                for (int q = 0; q < rides.size(); q++) {
                    int waits = r.leaves - rides.get(q).comes;
                    if (rides.get(q).to != r.from || waits < 0) {
                        continue;
                    }
                    for (int awake = 1; awake <= 99; awake++) {
                        int then = waits >= rules[1] ? length : awake + waits + length;
                        if (can[q][awake] && then <= rules[0]) {
                            next[k][then] = true;
                        }
                    }
                }
                for (boolean any : next[k]) {
                    went |= any;
                    if (any && r.to == to) {
                        best = Math.min(best, r.comes);
                    }
                }
            }
            if (!went) {
                break;
            }
            can = next;
        }
        return best == Integer.MAX_VALUE ? -1 : best;
    }

    int everywhere(int t, int h, int towns) {
        if (!town(t) || !hour(h) || towns < 1 || towns > 255) {
            return -1;
        }
        int latest = -1;
        for (int to = 0; to < 8; to++) {
            if ((towns & 1 << to) != 0) {
                int s = soonest(t, h, to);
                if (s < 0) {
                    return -1;
                }
                latest = Math.max(latest, s);
            }
        }
        return latest;
    }

    int count(int what) {
        int[] sizes = {rides.size(), couriers.size(), bags.size(), spells.size(), tape.length()};
        if (what >= 0 && what < 5) {
            return sizes[what];
        }
        if (what >= 10 && what < 15) {
            return rules[what - 10];
        }
        return what >= 20 && what < 20 + couriers.size() ? couriers.get(what - 20).taken.size() : -1;
    }
}
