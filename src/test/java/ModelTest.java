import java.util.Random;

/** Long runs of calls, with seeds that are fixed, on the program and on SlowDesk. */
public final class ModelTest {
    private static final String[] TEXTS = {"wake 30", "wake 12;rest 4", "carry 30;wait 2", "pay 3; wait 1;rest 2", "",
        "wake 99;rest 24;carry 99;pay 99;wait 99", "wake 15; carry 9", "wake 40 ;rest 5;carry 45"};
    private static final String BYTES = "wake rest carry pay wait ;;;  0123459 \0\u00ffAz";
    private static final int[] WILD = {Integer.MIN_VALUE, -2, -1, 0, 1, 7, 8, 12, 60, 100, 255, 256, 999, 1000,
        Integer.MAX_VALUE};

    /** A round of questions may go some calls over it, and still the object has had no more than its 512. */
    private static final int MOST_CALLS = 505;

    private final Random random;
    private final CourierDesk desk = new CourierDesk();
    private final SlowDesk slow = new SlowDesk();
    private final int seed;
    private int calls;
    private int towns;
    private int hours;
    private int longest;

    private ModelTest(int seed) {
        this.seed = seed;
        random = new Random(seed);
    }

    public static void main(String[] args) {
        for (int seed = 1; seed <= 6000 && !Checks.anyFailed(); seed++) {
            new ModelTest(seed).run(seed % 3);
        }
        for (int seed = 1; seed <= 3000 && !Checks.anyFailed(); seed++) {
            new ModelTest(-seed).wildRun();
        }
        for (int seed = 1; seed <= 20000 && !Checks.anyFailed(); seed++) {
            new ModelTest(seed).texts();
        }
        Checks.close("ModelTest");
    }

    private void due(String call, int got, int want) {
        Checks.due("seed " + seed + ": " + call, got, want);
        calls++;
    }

    private int any(int bound) {
        return random.nextInt(bound);
    }

    private void run(int kind) {
        towns = 3 + any(6);
        hours = kind == 0 ? 40 : kind == 1 ? 90 : 200;
        longest = kind == 2 ? 30 : 12;
        int changes = 40 + any(160);
        for (int k = 0; k < changes && calls < 350; k++) {
            change();
            if (any(10) == 0) {
                question();
            }
        }
        due("layOut", desk.layOut(), slow.layOut());
        while (calls < MOST_CALLS) {
            question();
        }
    }

    private void change() {
        int which = any(100);
        if (which < 25) {
            int leaves = any(hours);
            int from = any(towns);
            int to = any(towns);
            int comes = leaves + 1 + any(longest);
            due("ride", desk.ride(from, leaves, to, comes), slow.ride(from, leaves, to, comes));
        } else if (which < 27) {
            int town = any(towns);
            int first = any(hours);
            int last = first + any(4);
            due("shut", desk.shut(town, first, last), slow.shut(town, first, last));
        } else if (which < 30) {
            text(TEXTS[any(TEXTS.length)]);
        } else if (which < 34) {
            int town = any(towns);
            int hour = any(hours / 4);
            due("courier", desk.courier(town, hour), slow.courier(town, hour));
        } else if (which < 80) {
            takeOne();
        } else if (which < 82) {
            int courier = any(7);
            int hour = any(hours);
            due("ill", desk.ill(courier, hour), slow.ill(courier, hour));
        } else if (which < 92) {
            addBag();
        } else if (which < 95) {
            due("layOut", desk.layOut(), slow.layOut());
        } else {
            int town = any(towns);
            int hour = any(hours / 2);
            int to = any(towns);
            due("soonest", desk.soonest(town, hour, to), slow.soonest(town, hour, to));
            int set = any(1 << towns);
            due("everywhere", desk.everywhere(town, hour, set), slow.everywhere(town, hour, set));
        }
    }

    private void addBag() {
        int from = any(towns);
        int hour = any(hours / 2);
        int to = any(towns);
        int weight = 1 + any(12);
        int rank = any(4);
        int due = any(hours);
        due("bag", desk.bag(from, hour, to, weight, rank, due), slow.bag(from, hour, to, weight, rank, due));
    }

    /** Tries rides from a chance one on until one is taken; most are refused, so not all refusals are compared. */
    private void takeOne() {
        int courier = any(6);
        int rides = slow.rides.size();
        int start = any(rides + 1);
        for (int k = 0; k < 15; k++) {
            int ride = (start + k) % (rides + 1);
            int answer = slow.take(courier, ride);
            if (answer == 0 || any(8) == 0) {
                due("take", desk.take(courier, ride), answer);
            }
            if (answer == 0) {
                return;
            }
        }
    }

    private void text(String text) {
        Checks.write(desk, text);
        calls += 6;
        slow.tape = text;
        due("rules '" + text + "'", desk.rules(), slow.rules());
    }

    private void texts() {
        StringBuilder text = new StringBuilder(any(2) == 0 ? "" : TEXTS[any(TEXTS.length)]);
        int edits = any(4);
        for (int k = 0; k < edits; k++) {
            int place = any(text.length() + 1);
            int kind = any(3);
            if (kind == 0 && place < text.length()) {
                text.deleteCharAt(place);
            } else if (kind == 1) {
                text.insert(place, BYTES.charAt(any(BYTES.length())));
            } else {
                text.append(any(2) == 0 ? ";" : " ; ").append(TEXTS[any(TEXTS.length)]);
            }
        }
        if (text.length() > 100) {
            text.setLength(100);
        }
        text(TEXTS[any(TEXTS.length)]);
        text(text.toString());
        for (int what = 10; what < 15; what++) {
            due("count " + what, desk.count(what), slow.count(what));
        }
    }

    private int anyOf(int size) {
        return any(20) == 0 ? any(size + 2) - 1 : any(Math.max(1, size));
    }

    private void question() {
        switch (any(10)) {
            case 0, 1 -> askCourier(anyOf(slow.couriers.size()));
            case 2, 3, 4, 5, 6, 7 -> askBag(anyOf(slow.bags.size()));
            case 8 -> {
                int what = any(31) - 1;
                due("count(" + what + ")", desk.count(what), slow.count(what));
            }
            default -> {
                int town = any(towns);
                int hour = any(hours / 2);
                int to = any(towns);
                due("soonest", desk.soonest(town, hour, to), slow.soonest(town, hour, to));
            }
        }
    }

    private void askCourier(int c) {
        int i = anyOf(Math.max(0, slow.count(20 + c)));
        String call = "(" + c + ", " + i + ")";
        due("taken" + call, desk.taken(c, i), slow.taken(c, i));
        due("awake" + call, desk.awake(c, i), slow.awake(c, i));
        due("load" + call, desk.load(c, i), slow.load(c, i));
        due("pay(" + c + ")", desk.pay(c), slow.pay(c));
    }

    private void askBag(int b) {
        int what = any(6) - 1;
        due("laid(" + b + ", " + what + ")", desk.laid(b, what), slow.laid(b, what));
        int hour = any(hours + 40) - 1;
        due("hand(" + b + ", " + hour + ")", desk.hand(b, hour), slow.hand(b, hour));
        int i = anyOf(Math.max(0, slow.laid(b, 2)));
        int which = anyOf(2);
        due("leg(" + b + ", " + i + ", " + which + ")", desk.leg(b, i, which), slow.leg(b, i, which));
        i = anyOf(Math.max(0, slow.laid(b, 3)));
        due("seal(" + b + ", " + i + ", " + which + ")", desk.seal(b, i, which), slow.seal(b, i, which));
    }

    private int wild() {
        return any(3) == 0 ? WILD[any(WILD.length)] : any(3) == 0 ? any(1000) : any(14);
    }

    private void wildRun() {
        towns = 8;
        hours = 1000;
        while (calls < MOST_CALLS) {
            int[] w = {wild(), wild(), wild(), wild(), wild(), wild()};
            int which = any(22);
            due("call " + which + " " + java.util.Arrays.toString(w), onDesk(which, w), onSlow(which, w));
        }
    }

    private int onDesk(int which, int[] w) {
        switch (which) {
            case 0: return desk.ride(w[0], w[1], w[2], w[3]);
            case 1: return desk.shut(w[0], w[1], w[2]);
            case 2: return desk.feed(w[0], w[1], w[2], w[3], w[4]);
            case 3: return desk.end(w[0]);
            case 4: return desk.rules();
            case 5: return desk.courier(w[0], w[1]);
            case 6: return desk.take(w[0], w[1]);
            case 7: return desk.ill(w[0], w[1]);
            case 8: return desk.taken(w[0], w[1]);
            case 9: return desk.awake(w[0], w[1]);
            case 10: return desk.pay(w[0]);
            case 11: return desk.bag(w[0], w[1], w[2], w[3], w[4], w[5]);
            case 12: return desk.layOut();
            case 13: return desk.laid(w[0], w[1]);
            case 14: return desk.leg(w[0], w[1], w[2]);
            case 15: return desk.hand(w[0], w[1]);
            case 16: return desk.seal(w[0], w[1], w[2]);
            case 17: return desk.load(w[0], w[1]);
            case 18: return desk.soonest(w[0], w[1], w[2]);
            case 19: return desk.everywhere(w[0], w[1], w[2]);
            case 20: return desk.count(w[0]);
            default: return desk.ride(inTowns(w[0]), inTowns(w[1]), inTowns(w[2] + 1), inTowns(w[1]) + 3);
        }
    }

    private int onSlow(int which, int[] w) {
        switch (which) {
            case 0: return slow.ride(w[0], w[1], w[2], w[3]);
            case 1: return slow.shut(w[0], w[1], w[2]);
            case 2: return slow.feed(w[0], w[1], w[2], w[3], w[4]);
            case 3: return slow.end(w[0]);
            case 4: return slow.rules();
            case 5: return slow.courier(w[0], w[1]);
            case 6: return slow.take(w[0], w[1]);
            case 7: return slow.ill(w[0], w[1]);
            case 8: return slow.taken(w[0], w[1]);
            case 9: return slow.awake(w[0], w[1]);
            case 10: return slow.pay(w[0]);
            case 11: return slow.bag(w[0], w[1], w[2], w[3], w[4], w[5]);
            case 12: return slow.layOut();
            case 13: return slow.laid(w[0], w[1]);
            case 14: return slow.leg(w[0], w[1], w[2]);
            case 15: return slow.hand(w[0], w[1]);
            case 16: return slow.seal(w[0], w[1], w[2]);
            case 17: return slow.load(w[0], w[1]);
            case 18: return slow.soonest(w[0], w[1], w[2]);
            case 19: return slow.everywhere(w[0], w[1], w[2]);
            case 20: return slow.count(w[0]);
            default: return slow.ride(inTowns(w[0]), inTowns(w[1]), inTowns(w[2] + 1), inTowns(w[1]) + 3);
        }
    }

    /** Brings a wild number into the towns, so that some of the wild rides stand. */
    private static int inTowns(int number) {
        return number & 7;
    }
}
