import java.util.ArrayList;
import java.util.List;
import java.util.function.Supplier;
import java.util.function.ToIntFunction;

/**
 * A call that is refused, or that only asks, changes nothing: an object that had it answers all that can be asked as
 * its twin does that had it not.
 */
public final class RefusedCallTest {
    private static final int NONE = CourierDesk.NONE;
    private static final int LEAST = Integer.MIN_VALUE;
    private static final int MOST = Integer.MAX_VALUE;
    /** The document promises nothing of an object behind so many calls. */
    private static final int MOST_CALLS = 512;
    /** More than the fullest object here is made with. */
    private static final int CALLS_TO_MAKE = 130;

    private static int calls;

    private RefusedCallTest() {
    }

    public static void main(String[] args) {
        wrongRides();
        wrongSpells();
        wrongEnds();
        wrongCouriers();
        refusedTakes();
        wrongIllnesses();
        wrongBags();
        fullOfRides();
        fullOfSpells();
        fullOfCouriers();
        fullOfBags();
        fullOfRidesTaken();
        fullTape();
        feedOverHundred();
        faultyRules();
        wrongQuestions();
        rightQuestions();
        Checks.close("RefusedCallTest");
    }

    /** Rides taken, a spell, rules, a text begun, bags with and without a way, one that wasn't there when laid out. */
    private static CourierDesk busy() {
        CourierDesk x = new CourierDesk();
        Checks.rules(x, "wake 23;rest 7;carry 19;pay 3;wait 2");
        x.ride(0, 5, 1, 9);
        x.ride(1, 12, 2, 15);
        x.ride(2, 30, 3, 40);
        x.ride(1, 10, 3, 33);
        x.ride(3, 34, 0, 60);
        x.ride(4, 30, 5, 31);
        x.courier(0, 2);
        x.courier(1, 0);
        x.take(0, 0);
        x.take(0, 1);
        x.take(1, 3);
        x.shut(5, 31, 33);
        x.bag(0, 1, 3, 12, 4, 20);
        x.bag(0, 3, 2, 9, 2, 20);
        x.bag(0, 3, 2, 7, 3, 10);
        x.layOut();
        x.take(0, 2);
        x.bag(1, 0, 3, 5, 9, 30);
        Checks.write(x, "wake 7;pay 12");
        return x;
    }

    private static CourierDesk full() {
        CourierDesk x = new CourierDesk();
        for (int c = 0; c < 6; c++) {
            x.courier(c % 2, 0);
        }
        for (int i = 0; i < 60; i++) {
            x.ride(i % 2, 10 * i, 1 - i % 2, 10 * i + 1);
            if (i < 12) {
                x.take(0, i);
            }
        }
        for (int i = 0; i < 20; i++) {
            x.shut(7, 0, 999);
        }
        for (int b = 0; b < 12; b++) {
            x.bag(0, 10 * b, 1, 7, b % 10, 0);
        }
        x.layOut();
        Checks.write(x, " ".repeat(94) + "wake 7");
        return x;
    }

    /** All that can be asked, then what the text and the legs come to. */
    private static List<String> answers(CourierDesk x) {
        calls = 0;
        List<String> all = new ArrayList<>();
        ask(x, all);
        tell(all, "rules", x.rules());
        tell(all, "layOut", x.layOut());
        tell(all, "ride", x.ride(6, 1, 7, 2));
        tell(all, "shut", x.shut(6, 0, 0));
        tell(all, "courier", x.courier(6, 0));
        tell(all, "bag", x.bag(6, 0, 7, 1, 0, 0));
        int bags = tell(all, "bags", x.count(2));
        for (int bag = 0; bag < bags; bag++) {
            tell(all, "laid then", x.laid(bag, 0));
        }
        for (int what = 10; what <= 14; what++) {
            tell(all, "count then", x.count(what));
        }
        return all;
    }

    private static void ask(CourierDesk x, List<String> all) {
        int[] whats = {0, 1, 2, 3, 4, 10, 11, 12, 13, 14, 20, 21, 22, 23, 24, 25};
        for (int what : whats) {
            tell(all, "count(" + what + ")", x.count(what));
        }
        int couriers = tell(all, "couriers", x.count(1));
        for (int c = 0; c < couriers; c++) {
            tell(all, "pay(" + c + ")", x.pay(c));
            int taken = tell(all, "taken", x.count(20 + c));
            for (int i = 0; i <= taken; i++) {
                tell(all, "taken(" + c + ", " + i + ")", x.taken(c, i));
                tell(all, "awake(" + c + ", " + i + ")", x.awake(c, i));
                tell(all, "load(" + c + ", " + i + ")", x.load(c, i));
            }
        }
        int bags = tell(all, "bags", x.count(2));
        for (int bag = 0; bag < bags; bag++) {
            askBag(x, bag, all);
        }
        for (int to = 0; to <= 7; to++) {
            tell(all, "soonest to " + to, x.soonest(0, 0, to));
            tell(all, "soonest from 1 to " + to, x.soonest(1, 11, to));
        }
    }

    private static void askBag(CourierDesk x, int bag, List<String> all) {
        tell(all, "laid(" + bag + ", 0)", x.laid(bag, 0));
        tell(all, "laid(" + bag + ", 1)", x.laid(bag, 1));
        int legs = tell(all, "laid(" + bag + ", 2)", x.laid(bag, 2));
        for (int i = 0; i < legs; i++) {
            tell(all, "leg(" + bag + ", " + i + ", 0)", x.leg(bag, i, 0));
            tell(all, "leg(" + bag + ", " + i + ", 1)", x.leg(bag, i, 1));
        }
        int seals = tell(all, "laid(" + bag + ", 3)", x.laid(bag, 3));
        for (int i = 0; i < seals; i++) {
            tell(all, "seal(" + bag + ", " + i + ", 0)", x.seal(bag, i, 0));
            tell(all, "seal(" + bag + ", " + i + ", 1)", x.seal(bag, i, 1));
        }
        int[] hours = {0, 4, 14, 999};
        for (int hour : hours) {
            tell(all, "hand(" + bag + ", " + hour + ")", x.hand(bag, hour));
        }
    }

    private static int tell(List<String> all, String call, int answer) {
        all.add(call + " " + answer);
        calls++;
        return answer;
    }

    /** The call answers so, and behind it all is as without it. */
    private static void unchanged(String call, Supplier<CourierDesk> made, ToIntFunction<CourierDesk> tried, int answer) {
        CourierDesk twin = made.get();
        CourierDesk x = made.get();
        Checks.due(call, tried.applyAsInt(x), answer);
        List<String> want = answers(twin);
        List<String> got = answers(x);
        Checks.holds("answers stay within the calls of an object", calls < MOST_CALLS - CALLS_TO_MAKE);
        for (int i = 0; i < want.size(); i++) {
            String there = i < got.size() ? got.get(i) : "nothing";
            Checks.holds("behind " + call + ": " + there + ", without it: " + want.get(i), there.equals(want.get(i)));
        }
    }

    private static void refused(String call, ToIntFunction<CourierDesk> tried) {
        unchanged(call, RefusedCallTest::busy, tried, NONE);
    }

    private static void wrongRides() {
        Checks.sentence("A RIDE: its number; NONE: there are 60, or something is not as told.");
        refused("ride from -1", x -> x.ride(-1, 5, 1, 6));
        refused("ride from 8", x -> x.ride(8, 5, 1, 6));
        refused("ride to -1", x -> x.ride(0, 5, -1, 6));
        refused("ride to 8", x -> x.ride(0, 5, 8, 6));
        refused("ride to the same town", x -> x.ride(0, 5, 0, 6));
        refused("ride at -1", x -> x.ride(0, -1, 1, 6));
        refused("ride that comes at 1000", x -> x.ride(0, 999, 1, 1000));
        refused("ride that comes as it leaves", x -> x.ride(0, 5, 1, 5));
        refused("ride that comes ahead", x -> x.ride(0, 5, 1, 4));
        refused("ride of 100 hours", x -> x.ride(0, 5, 1, 105));
        refused("ride at the ends of int", x -> x.ride(LEAST, MOST, MOST, LEAST));
        refused("ride whose hours wrap", x -> x.ride(0, MOST, 1, LEAST));
    }

    private static void wrongSpells() {
        Checks.sentence("A TOWN is SHUT: how many spells; NONE: 20, or something is not as told.");
        refused("shut -1", x -> x.shut(-1, 0, 999));
        refused("shut 8", x -> x.shut(8, 0, 999));
        refused("shut from -1", x -> x.shut(0, -1, 999));
        refused("shut to 1000", x -> x.shut(0, 0, 1000));
        refused("shut backwards", x -> x.shut(0, 6, 5));
        refused("shut at the ends of int", x -> x.shut(0, LEAST, MOST));
    }

    private static void wrongEnds() {
        Checks.sentence("NONE, and nothing happens, if it has not so many, or n is below 0.");
        refused("end(-1)", x -> x.end(-1));
        refused("end(14)", x -> x.end(14));
        refused("end(100)", x -> x.end(100));
        refused("end least", x -> x.end(LEAST));
        refused("end most", x -> x.end(MOST));
        unchanged("end(13), as it is", RefusedCallTest::busy, x -> x.end(13), 13);
    }

    private static void wrongCouriers() {
        Checks.sentence("A COURIER: the number; NONE: there are 6, or something is not as told.");
        refused("courier of -1", x -> x.courier(-1, 0));
        refused("courier of 8", x -> x.courier(8, 0));
        refused("courier at -1", x -> x.courier(0, -1));
        refused("courier at 1000", x -> x.courier(0, 1000));
        refused("courier at the ends of int", x -> x.courier(MOST, LEAST));
    }

    private static void refusedTakes() {
        Checks.sentence("A RIDE is TAKEN by a COURIER: 0 to 5.");
        Supplier<CourierDesk> made = RefusedCallTest::busy;
        unchanged("take by nobody", made, x -> x.take(2, 0), 1);
        unchanged("take by -1", made, x -> x.take(-1, 0), 1);
        unchanged("take of ride 6", made, x -> x.take(0, 6), 1);
        unchanged("take of ride -1", made, x -> x.take(0, -1), 1);
        unchanged("take at the ends of int", made, x -> x.take(LEAST, MOST), 1);
        unchanged("take elsewhere", made, x -> x.take(1, 0), 2);
        unchanged("take ahead of his hour", made, x -> x.take(0, 4), 3);
        unchanged("take awake too long", made, x -> x.take(1, 4), 5);
        Supplier<CourierDesk> shut = () -> {
            CourierDesk x = busy();
            x.courier(4, 0);
            return x;
        };
        unchanged("take of one that doesn't go", shut, x -> x.take(2, 5), 4);
    }

    private static void wrongIllnesses() {
        Checks.sentence("NONE without him, or such an HOUR.");
        refused("ill 2", x -> x.ill(2, 0));
        refused("ill -1", x -> x.ill(-1, 0));
        refused("ill at -1", x -> x.ill(0, -1));
        refused("ill at 1000", x -> x.ill(0, 1000));
        refused("ill at least", x -> x.ill(0, LEAST));
        refused("ill at most", x -> x.ill(0, MOST));
        unchanged("ill behind all of his", RefusedCallTest::busy, x -> x.ill(0, 31), 0);
        unchanged("ill at the last hour", RefusedCallTest::busy, x -> x.ill(1, 999), 0);
    }

    private static void wrongBags() {
        Checks.sentence("A BAG: its number; NONE: there are 12, or something is not as told.");
        refused("bag from -1", x -> x.bag(-1, 0, 1, 1, 0, 0));
        refused("bag from 8", x -> x.bag(8, 0, 1, 1, 0, 0));
        refused("bag to -1", x -> x.bag(0, 0, -1, 1, 0, 0));
        refused("bag to 8", x -> x.bag(0, 0, 8, 1, 0, 0));
        refused("bag to the same town", x -> x.bag(1, 0, 1, 1, 0, 0));
        refused("bag at -1", x -> x.bag(0, -1, 1, 1, 0, 0));
        refused("bag at 1000", x -> x.bag(0, 1000, 1, 1, 0, 0));
        refused("bag of weight 0", x -> x.bag(0, 0, 1, 0, 0, 0));
        refused("bag of weight 51", x -> x.bag(0, 0, 1, 51, 0, 0));
        refused("bag of rank -1", x -> x.bag(0, 0, 1, 1, -1, 0));
        refused("bag of rank 10", x -> x.bag(0, 0, 1, 1, 10, 0));
        refused("bag due at -1", x -> x.bag(0, 0, 1, 1, 0, -1));
        refused("bag due at 1000", x -> x.bag(0, 0, 1, 1, 0, 1000));
        refused("bag at the ends of int", x -> x.bag(LEAST, MOST, MOST, LEAST, MOST, LEAST));
    }

    private static void fullRefuses(String call, ToIntFunction<CourierDesk> tried, int answer) {
        unchanged(call, RefusedCallTest::full, tried, answer);
    }

    private static void fullOfRides() {
        Checks.sentence("NONE: there are 60");
        fullRefuses("ride the 61st", x -> x.ride(0, 1, 2, 2), NONE);
    }

    private static void fullOfSpells() {
        Checks.sentence("NONE: 20");
        fullRefuses("shut the 21st", x -> x.shut(0, 0, 999), NONE);
    }

    private static void fullOfCouriers() {
        Checks.sentence("NONE: there are 6");
        fullRefuses("courier the seventh", x -> x.courier(0, 0), NONE);
    }

    private static void fullOfBags() {
        Checks.sentence("NONE: there are 12");
        fullRefuses("bag the thirteenth", x -> x.bag(0, 0, 1, 1, 9, 0), NONE);
    }

    private static void fullOfRidesTaken() {
        Checks.sentence("or he has 12");
        fullRefuses("take the thirteenth", x -> x.take(0, 12), 1);
    }

    private static void fullTape() {
        Checks.sentence("it would have more than 100");
        fullRefuses("feed behind 100 bytes", x -> x.feed(0, 0, 0, 0, 0), NONE);
        fullRefuses("end(101)", x -> x.end(101), NONE);
    }

    private static void feedOverHundred() {
        Checks.sentence("NONE, and none comes: it would have more than 100.");
        for (int has = 81; has <= 99; has += 6) {
            String text = " ".repeat(has - 6) + "wake 7";
            Supplier<CourierDesk> made = () -> {
                CourierDesk x = busy();
                x.end(0);
                Checks.write(x, text);
                return x;
            };
            unchanged("feed behind " + has + " bytes", made, x -> x.feed(MOST, LEAST, -1, 0, 1), NONE);
        }
    }

    private static void faultyRules() {
        Checks.sentence("-2 - its FAULT (then those ahead stay)");
        Supplier<CourierDesk> made = () -> {
            CourierDesk x = busy();
            x.end(0);
            return x;
        };
        String[] texts = {"#", "wake 1;rest 1;carry 1;pay 1;wait 100", "wake 1;rest 1;wake 1", "wake 1;rest 1;"};
        int[] faults = {1, 1 + 8 * 33 + 1, 1 + 8 * 14 + 2, 1 + 8 * 14};
        for (int i = 0; i < texts.length; i++) {
            String text = texts[i];
            unchanged("rules '" + text + "'", made, x -> Checks.rules(x, text), -2 - faults[i]);
        }
    }

    private static void wrongQuestions() {
        Checks.sentence("NONE");
        refused("taken 4", x -> x.taken(0, 4));
        refused("taken at the ends of int", x -> x.taken(MOST, LEAST));
        refused("awake 4", x -> x.awake(0, 4));
        refused("awake at the ends of int", x -> x.awake(LEAST, MOST));
        refused("pay 2", x -> x.pay(2));
        refused("pay least", x -> x.pay(LEAST));
        refused("laid of 4", x -> x.laid(4, 0));
        refused("laid what 4", x -> x.laid(0, 4));
        refused("leg 7", x -> x.leg(0, 7, 0));
        refused("leg at the ends of int", x -> x.leg(MOST, LEAST, MOST));
        refused("hand at 1000", x -> x.hand(0, 1000));
        refused("hand at the ends of int", x -> x.hand(LEAST, MOST));
        refused("seal 15", x -> x.seal(0, 15, 0));
        refused("seal at the ends of int", x -> x.seal(MOST, LEAST, MOST));
        refused("load 3", x -> x.load(0, 3));
        refused("load at the ends of int", x -> x.load(LEAST, MOST));
        refused("soonest from 8", x -> x.soonest(8, 0, 0));
        refused("soonest at the ends of int", x -> x.soonest(MOST, LEAST, MOST));
        refused("everywhere of none", x -> x.everywhere(0, 0, 0));
        refused("everywhere at the ends of int", x -> x.everywhere(LEAST, MOST, LEAST));
        refused("count(5)", x -> x.count(5));
        refused("count least", x -> x.count(LEAST));
    }

    private static void rightQuestions() {
        Checks.sentence("Nothing is promised beyond the answers and state changes described above");
        Supplier<CourierDesk> made = RefusedCallTest::busy;
        unchanged("taken", made, x -> x.taken(0, 1), 1);
        unchanged("awake", made, x -> x.awake(0, 1), 10);
        unchanged("pay", made, x -> x.pay(1), 69);
        unchanged("laid", made, x -> x.laid(0, 0), 33);
        unchanged("leg", made, x -> x.leg(0, 1, 1), 3);
        unchanged("hand", made, x -> x.hand(0, 9), 101);
        unchanged("seal", made, x -> x.seal(0, 1, 0), 5);
        unchanged("load", made, x -> x.load(1, 0), 12);
        unchanged("soonest", made, x -> x.soonest(0, 3, 2), 15);
        unchanged("everywhere", made, x -> x.everywhere(0, 3, 7), 15);
        unchanged("count", made, x -> x.count(0), 6);
    }
}
