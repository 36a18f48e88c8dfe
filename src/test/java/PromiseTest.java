/** A test or more for each promise of the document: ordinary inputs, its edges, wrong inputs. */
public final class PromiseTest {
    private static final int NONE = CourierDesk.NONE;

    private PromiseTest() {
    }

    private static void due(String call, long got, long want) {
        Checks.due(call, got, want);
    }

    public static void main(String[] args) {
        newObject();
        rides();
        spells();
        spellsStopRides();
        feedAndEnd();
        rulesRead();
        rulesFaults();
        rulesReplace();
        couriers();
        takeReasons();
        takeOrderOfReasons();
        takeTwelve();
        freshAndAwake();
        laterRulesLeaveTaken();
        ill();
        pay();
        bags();
        layOutSoonest();
        layOutFewest();
        layOutFirst();
        layOutRanksAndRoom();
        layOutOnlyWhatGoes();
        layOutIsKept();
        handsAndSeals();
        handsKept();
        handsNotNextTaken();
        handsAtOnce();
        handsWithoutWay();
        loads();
        soonest();
        soonestSleeps();
        everywhere();
        count();
        Checks.close("PromiseTest");
    }

    private static void newObject() {
        CourierDesk x = new CourierDesk();
        for (int what = 0; what <= 4; what++) {
            due("new count(" + what + ")", x.count(what), 0);
        }
        int[] without = {24, 8, 20, 1, 0};
        for (int k = 0; k < 5; k++) {
            due("new count(" + (10 + k) + ")", x.count(10 + k), without[k]);
        }
        due("new count(20)", x.count(20), NONE);
        due("new layOut()", x.layOut(), 0);
        due("NONE", CourierDesk.NONE, -1);
    }

    private static void rides() {
        CourierDesk x = new CourierDesk();
        due("ride first", x.ride(0, 0, 7, 99), 0);
        due("ride second", x.ride(7, 998, 0, 999), 1);
        due("ride too long", x.ride(0, 0, 7, 100), NONE);
        due("ride no hours", x.ride(0, 5, 7, 5), NONE);
        due("ride backwards", x.ride(0, 5, 7, 4), NONE);
        due("ride same town", x.ride(3, 5, 3, 9), NONE);
        due("ride town -1", x.ride(-1, 5, 3, 9), NONE);
        due("ride town 8", x.ride(8, 5, 3, 9), NONE);
        due("ride to -1", x.ride(0, 5, -1, 9), NONE);
        due("ride to 8", x.ride(0, 5, 8, 9), NONE);
        due("ride hour -1", x.ride(0, -1, 3, 9), NONE);
        due("ride hour 1000", x.ride(0, 999, 3, 1000), NONE);
        due("ride wrap", x.ride(0, Integer.MIN_VALUE, 3, Integer.MAX_VALUE), NONE);
        for (int i = 2; i < 60; i++) {
            due("ride " + i, x.ride(1, i, 2, i + 1), i);
        }
        due("ride 61st", x.ride(1, 1, 2, 2), NONE);
        due("count rides", x.count(0), 60);
    }

    private static void spells() {
        CourierDesk x = new CourierDesk();
        due("shut one hour", x.shut(0, 5, 5), 1);
        due("shut all", x.shut(7, 0, 999), 2);
        due("shut backwards", x.shut(0, 5, 4), NONE);
        due("shut town 8", x.shut(8, 5, 6), NONE);
        due("shut town -1", x.shut(-1, 5, 6), NONE);
        due("shut hour -1", x.shut(0, -1, 6), NONE);
        due("shut hour 1000", x.shut(0, 5, 1000), NONE);
        for (int i = 3; i <= 20; i++) {
            due("shut " + i, x.shut(1, 1, 2), i);
        }
        due("shut 21st", x.shut(1, 1, 2), NONE);
        due("count spells", x.count(3), 20);
    }

    private static void spellsStopRides() {
        int[] leaves = {9, 10, 11, 12, 13};
        for (int hour : leaves) {
            CourierDesk x = new CourierDesk();
            x.shut(0, 10, 12);
            x.ride(0, hour, 1, 20);
            x.courier(0, 0);
            due("leaves a shut town at " + hour, x.take(0, 0), hour >= 10 && hour <= 12 ? 4 : 0);
            CourierDesk y = new CourierDesk();
            y.ride(1, 2, 0, hour);
            y.shut(0, 10, 12);
            y.courier(1, 0);
            due("comes to a shut town at " + hour, y.take(0, 0), hour >= 10 && hour <= 12 ? 4 : 0);
        }
        CourierDesk z = new CourierDesk();
        z.shut(0, 11, 30);
        z.shut(1, 0, 19);
        z.ride(0, 10, 1, 20);
        z.courier(0, 0);
        due("shut at the other hours alone", z.take(0, 0), 0);
    }

    private static void feedAndEnd() {
        CourierDesk x = new CourierDesk();
        due("end(0) empty", x.end(0), 0);
        due("end(1) empty", x.end(1), NONE);
        due("end(-1)", x.end(-1), NONE);
        for (int n = 20; n <= 100; n += 20) {
            due("feed to " + n, x.feed(0x20202020, 0x20202020, 0x20202020, 0x20202020, 0x20202020), n);
        }
        due("feed over 100", x.feed(0, 0, 0, 0, 0), NONE);
        due("count after refused", x.count(4), 100);
        due("end(101)", x.end(101), NONE);
        due("end(100)", x.end(100), 100);
        due("end(81)", x.end(81), 81);
        due("feed at 81", x.feed(0, 0, 0, 0, 0), NONE);
        due("end(80)", x.end(80), 80);
        due("end(81) behind", x.end(81), NONE);
        due("feed at 80", x.feed(0x77616B65, 0x20370000, 0, 0, 0), 100);
        due("end(86)", x.end(86), 86);
        due("rules, the highest byte first", x.rules(), 1);
        due("wake", x.count(10), 7);
        due("tape is empty", x.count(4), 0);
        due("rules of nothing", x.rules(), 0);
        due("wake as without", x.count(10), 24);
    }

    private static void rulesRead() {
        String[] good = {"", " ", "wake 5", "  wake   5  ", "wake5", "wake 05", "wake 99;rest 24;carry 99;pay 99;wait 99",
            "wake 1 ; rest 1;carry 1 ;pay 0; wait 0 ", "wait 3;wake 4"};
        int[] told = {0, 0, 1, 1, 1, 1, 5, 5, 2};
        int[][] values = {{24, 8, 20, 1, 0}, {24, 8, 20, 1, 0}, {5, 8, 20, 1, 0}, {5, 8, 20, 1, 0}, {5, 8, 20, 1, 0},
            {5, 8, 20, 1, 0}, {99, 24, 99, 99, 99}, {1, 1, 1, 0, 0}, {4, 8, 20, 1, 3}};
        for (int i = 0; i < good.length; i++) {
            CourierDesk x = new CourierDesk();
            due("rules '" + good[i] + "'", Checks.rules(x, good[i]), told[i]);
            for (int k = 0; k < 5; k++) {
                due("rules '" + good[i] + "' count " + (10 + k), x.count(10 + k), values[i][k]);
            }
        }
    }

    private static void rulesFaults() {
        Checks.fault("wak 5", 0, 0);
        Checks.fault("wakes 5", 0, 0);
        Checks.fault(" Wake 5", 1, 0);
        Checks.fault("waKe 5", 0, 0);
        Checks.fault("5", 0, 0);
        Checks.fault(";", 0, 0);
        Checks.fault("wake", 4, 0);
        Checks.fault("wake  ", 6, 0);
        Checks.fault("wake ;", 5, 0);
        Checks.fault("wake -5", 5, 0);
        Checks.fault("wake rest 5", 5, 0);
        Checks.fault("wake 0", 5, 1);
        Checks.fault("wake 00", 5, 1);
        Checks.fault("wake  100", 6, 1);
        Checks.fault("wake 005", 5, 1);
        Checks.fault("rest 25", 5, 1);
        Checks.fault("rest 0", 5, 1);
        Checks.fault("carry 0", 6, 1);
        Checks.fault("pay 100", 4, 1);
        Checks.fault("wait 100", 5, 1);
        Checks.fault("wake 5;", 7, 0);
        Checks.fault("wake 5; ", 8, 0);
        Checks.fault("wake 5;;rest 6", 7, 0);
        Checks.fault("wake 5 rest 6", 7, 0);
        Checks.fault("wake 5rest 6", 6, 0);
        Checks.fault("wake 5 6", 7, 0);
        Checks.fault("wake 5;wake 6", 7, 2);
        Checks.fault("wake 5; wake 0", 8, 2);
        Checks.fault("wake 5;rest 6;carry 7;pay 8;wait 9;wake 5", 35, 2);
        Checks.fault("wake 5;rest 6;carry 7;pay 8;wait 9;", 35, 0);
        Checks.fault("wake 5\0", 6, 0);
        Checks.fault("wake\t5", 4, 0);
        Checks.fault("wake 5;\u00e9", 7, 0);
        StringBuilder long100 = new StringBuilder("wake 5;rest ");
        while (long100.length() < 100) {
            long100.append(' ');
        }
        Checks.fault(long100.toString(), 100, 0);
    }

    private static void rulesReplace() {
        CourierDesk x = new CourierDesk();
        Checks.rules(x, "wake 30;wait 5");
        Checks.rules(x, "rest 3");
        due("wake is as without", x.count(10), 24);
        due("rest", x.count(11), 3);
        due("wait is as without", x.count(14), 0);
    }

    private static void couriers() {
        CourierDesk x = new CourierDesk();
        due("courier town 8", x.courier(8, 0), NONE);
        due("courier town -1", x.courier(-1, 0), NONE);
        due("courier hour -1", x.courier(0, -1), NONE);
        due("courier hour 1000", x.courier(0, 1000), NONE);
        for (int c = 0; c < 6; c++) {
            due("courier " + c, x.courier(c + 2, 999 * (c % 2)), c);
            due("count of courier " + c, x.count(20 + c), 0);
        }
        due("seventh courier", x.courier(0, 0), NONE);
        due("count(26)", x.count(26), NONE);
    }

    private static void takeReasons() {
        CourierDesk x = new CourierDesk();
        x.courier(0, 10);
        x.ride(0, 10, 1, 20);
        x.ride(0, 9, 1, 20);
        x.ride(1, 20, 0, 21);
        x.ride(1, 19, 0, 21);
        x.ride(1, 20, 2, 35);
        x.ride(0, 30, 3, 40);
        x.shut(3, 40, 40);
        due("no courier", x.take(1, 0), 1);
        due("courier -1", x.take(-1, 0), 1);
        due("no ride", x.take(0, 6), 1);
        due("ride -1", x.take(0, -1), 1);
        due("other town", x.take(0, 2), 2);
        due("ahead of his hour", x.take(0, 1), 3);
        due("doesn't go", x.take(0, 5), 4);
        due("at his hour", x.take(0, 0), 0);
        due("the same again", x.take(0, 0), 2);
        due("ahead of his coming", x.take(0, 3), 3);
        due("awake 25", x.take(0, 4), 5);
        due("at the hour of coming", x.take(0, 2), 0);
        due("taken 0", x.taken(0, 0), 0);
        due("taken 1", x.taken(0, 1), 2);
        due("taken 2", x.taken(0, 2), NONE);
        due("taken -1", x.taken(0, -1), NONE);
        due("taken of nobody", x.taken(1, 0), NONE);
        due("count taken", x.count(20), 2);
    }

    private static void takeOrderOfReasons() {
        CourierDesk x = new CourierDesk();
        x.courier(0, 50);
        x.ride(1, 10, 2, 90);
        x.ride(0, 10, 2, 90);
        x.ride(0, 50, 2, 90);
        x.ride(0, 51, 2, 90);
        x.shut(1, 10, 10);
        x.shut(0, 10, 50);
        due("2 ahead of 3, 4, 5", x.take(0, 0), 2);
        due("3 ahead of 4, 5", x.take(0, 1), 3);
        due("4 ahead of 5", x.take(0, 2), 4);
        due("5 alone, with the first ride", x.take(0, 3), 5);
        Checks.rules(x, "wake 39");
        due("just as long as wake", x.take(0, 3), 0);
    }

    private static void takeTwelve() {
        CourierDesk x = new CourierDesk();
        x.courier(0, 0);
        for (int i = 0; i < 13; i++) {
            x.ride(i % 2, 10 * i, 1 - i % 2, 10 * i + 1);
            due("take " + i, x.take(0, i), i < 12 ? 0 : 1);
        }
        due("count of twelve", x.count(20), 12);
        due("taken 11", x.taken(0, 11), 11);
        due("taken 12", x.taken(0, 12), NONE);
    }

    private static void freshAndAwake() {
        CourierDesk x = new CourierDesk();
        x.courier(0, 0);
        x.ride(0, 5, 1, 10);
        x.ride(1, 17, 2, 20);
        x.ride(2, 28, 3, 30);
        x.ride(3, 31, 4, 52);
        x.ride(3, 31, 4, 53);
        due("first", x.take(0, 0), 0);
        due("seven hours of rest", x.take(0, 1), 0);
        due("eight hours of rest", x.take(0, 2), 0);
        due("awake 25", x.take(0, 4), 5);
        due("awake 24", x.take(0, 3), 0);
        int[] awake = {5, 15, 2, 24, NONE};
        for (int i = 0; i < awake.length; i++) {
            due("awake " + i, x.awake(0, i), awake[i]);
        }
        due("awake -1", x.awake(0, -1), NONE);
        due("awake of nobody", x.awake(1, 0), NONE);
    }

    private static void laterRulesLeaveTaken() {
        CourierDesk x = new CourierDesk();
        x.courier(0, 0);
        x.ride(0, 0, 1, 4);
        x.ride(1, 12, 2, 20);
        x.ride(2, 21, 3, 22);
        x.take(0, 0);
        x.take(0, 1);
        Checks.rules(x, "rest 24;wake 10");
        x.shut(0, 0, 0);
        due("still fresh since 12", x.awake(0, 1), 8);
        due("still taken", x.taken(0, 0), 0);
        due("awake goes on from 12", x.take(0, 2), 0);
        due("awake 2", x.awake(0, 2), 10);
    }

    private static void ill() {
        CourierDesk x = new CourierDesk();
        x.courier(0, 0);
        x.ride(0, 0, 1, 5);
        x.ride(1, 10, 2, 12);
        x.ride(2, 15, 0, 20);
        x.take(0, 0);
        x.take(0, 1);
        x.take(0, 2);
        due("ill nobody", x.ill(1, 0), NONE);
        due("ill -1", x.ill(-1, 0), NONE);
        due("ill hour -1", x.ill(0, -1), NONE);
        due("ill hour 1000", x.ill(0, 1000), NONE);
        due("ill behind all", x.ill(0, 16), 0);
        due("ill at the hour of leaving", x.ill(0, 15), 1);
        due("count", x.count(20), 2);
        due("ill on the way", x.ill(0, 11), 0);
        due("taken again", x.take(0, 2), 0);
        due("ill from 1 on", x.ill(0, 1), 2);
        due("where he is then", x.take(0, 1), 0);
        due("ill from 0 on", x.ill(0, 0), 2);
        due("none left", x.taken(0, 0), NONE);
        due("home again", x.take(0, 0), 0);
    }

    private static void pay() {
        CourierDesk x = new CourierDesk();
        x.courier(0, 0);
        due("pay of none", x.pay(0), 0);
        due("pay of nobody", x.pay(1), NONE);
        due("pay of -1", x.pay(-1), NONE);
        x.ride(0, 3, 1, 8);
        x.ride(1, 10, 0, 17);
        x.ride(0, 17, 2, 18);
        x.take(0, 0);
        due("pay of one", x.pay(0), 5);
        x.take(0, 1);
        x.take(0, 2);
        due("pay of three", x.pay(0), 13);
        Checks.rules(x, "pay 10;wait 3");
        due("pay by these rules", x.pay(0), 136);
        x.shut(0, 3, 3);
        due("pay of one that goes no more", x.pay(0), 136);
        Checks.rules(x, "pay 0");
        due("no pay", x.pay(0), 0);
    }

    private static void bags() {
        CourierDesk x = new CourierDesk();
        due("bag", x.bag(0, 0, 1, 1, 0, 0), 0);
        due("bag at the other edges", x.bag(7, 999, 0, 50, 9, 999), 1);
        due("bag due ahead of its hour", x.bag(0, 5, 1, 1, 0, 4), 2);
        due("bag town -1", x.bag(-1, 0, 1, 1, 0, 0), NONE);
        due("bag town 8", x.bag(8, 0, 1, 1, 0, 0), NONE);
        due("bag to -1", x.bag(0, 0, -1, 1, 0, 0), NONE);
        due("bag to 8", x.bag(0, 0, 8, 1, 0, 0), NONE);
        due("bag to the same", x.bag(1, 0, 1, 1, 0, 0), NONE);
        due("bag hour -1", x.bag(0, -1, 1, 1, 0, 0), NONE);
        due("bag hour 1000", x.bag(0, 1000, 1, 1, 0, 0), NONE);
        due("bag weight 0", x.bag(0, 0, 1, 0, 0, 0), NONE);
        due("bag weight 51", x.bag(0, 0, 1, 51, 0, 0), NONE);
        due("bag rank -1", x.bag(0, 0, 1, 1, -1, 0), NONE);
        due("bag rank 10", x.bag(0, 0, 1, 1, 10, 0), NONE);
        due("bag due -1", x.bag(0, 0, 1, 1, 0, -1), NONE);
        due("bag due 1000", x.bag(0, 0, 1, 1, 0, 1000), NONE);
        for (int b = 3; b < 12; b++) {
            due("bag " + b, x.bag(0, 0, 1, 1, 0, 0), b);
        }
        due("thirteenth bag", x.bag(0, 0, 1, 1, 0, 0), NONE);
        due("count bags", x.count(2), 12);
    }

    private static void layOutSoonest() {
        CourierDesk x = new CourierDesk();
        Checks.single(x, 0, 9, 2, 30);
        Checks.single(x, 0, 10, 1, 20);
        Checks.single(x, 1, 20, 2, 29);
        Checks.single(x, 1, 19, 2, 25);
        Checks.single(x, 0, 9, 2, 12);
        x.bag(0, 10, 2, 5, 0, 27);
        x.bag(0, 9, 2, 5, 0, 12);
        x.bag(0, 10, 3, 5, 0, 27);
        x.bag(0, 21, 2, 5, 0, 27);
        due("bags that don't come", x.layOut(), 2);
        due("comes", x.laid(0, 0), 29);
        due("late", x.laid(0, 1), 2);
        due("legs", x.laid(0, 2), 2);
        due("seals", x.laid(0, 3), 5);
        due("leg 0 courier", x.leg(0, 0, 0), 1);
        due("leg 0 ride", x.leg(0, 0, 1), 1);
        due("leg 1 courier", x.leg(0, 1, 0), 2);
        due("leg 1 ride", x.leg(0, 1, 1), 2);
        due("leg 2", x.leg(0, 2, 0), NONE);
        due("leg -1", x.leg(0, -1, 0), NONE);
        due("leg what 2", x.leg(0, 0, 2), NONE);
        due("leg what -1", x.leg(0, 0, -1), NONE);
        due("leg of no bag", x.leg(4, 0, 0), NONE);
        due("in time", x.laid(1, 0), 12);
        due("not late", x.laid(1, 1), 0);
        due("doesn't come", x.laid(2, 0), NONE);
        due("doesn't come, late", x.laid(2, 1), NONE);
        due("doesn't come, legs", x.laid(2, 2), 0);
        due("doesn't come, seals", x.laid(2, 3), 1);
        due("there too late", x.laid(3, 0), NONE);
        due("laid what 4", x.laid(0, 4), NONE);
        due("laid what -1", x.laid(0, -1), NONE);
        due("laid no bag", x.laid(4, 0), NONE);
        due("laid -1", x.laid(-1, 2), NONE);
    }

    private static void layOutFewest() {
        CourierDesk x = new CourierDesk();
        Checks.single(x, 0, 0, 1, 5);
        Checks.single(x, 1, 5, 2, 10);
        Checks.single(x, 2, 10, 3, 20);
        Checks.single(x, 0, 6, 2, 9);
        Checks.single(x, 1, 8, 3, 20);
        x.bag(0, 0, 3, 1, 0, 0);
        due("fewest", x.layOut(), 0);
        due("two legs of three", x.laid(0, 2), 2);
        due("the first of those of two", x.leg(0, 0, 0), 0);
        due("its second", x.leg(0, 1, 0), 4);
    }

    private static void layOutFirst() {
        CourierDesk x = new CourierDesk();
        x.courier(0, 0);
        x.courier(0, 0);
        x.ride(0, 1, 1, 2);
        x.ride(1, 3, 0, 4);
        x.ride(0, 5, 1, 6);
        x.ride(1, 10, 2, 12);
        x.ride(0, 2, 1, 3);
        x.ride(1, 10, 2, 12);
        due("one takes", x.take(1, 0) + x.take(1, 1) + x.take(1, 2) + x.take(1, 3), 0);
        due("other takes", x.take(0, 4) + x.take(0, 5), 0);
        x.bag(0, 0, 2, 15, 0, 0);
        x.bag(0, 0, 2, 15, 0, 0);
        due("all come", x.layOut(), 0);
        due("by couriers first", x.leg(0, 0, 0), 0);
        due("its second leg too", x.leg(0, 1, 0), 0);
        due("the next one has the other courier", x.leg(1, 0, 0), 1);
        due("in the order taken", x.leg(1, 0, 1), 0);
        due("the second leg, as the first courier is full", x.leg(1, 1, 0), 1);
        due("the second ride", x.leg(1, 1, 1), 3);
    }

    private static void layOutRanksAndRoom() {
        CourierDesk x = new CourierDesk();
        Checks.single(x, 0, 5, 1, 10);
        x.bag(0, 0, 1, 12, 3, 10);
        x.bag(0, 0, 1, 9, 4, 10);
        x.bag(0, 0, 1, 11, 3, 10);
        x.bag(0, 0, 1, 21, 9, 10);
        due("two stay", x.layOut(), 2);
        due("rank 3, too heavy with rank 4", x.laid(0, 0), NONE);
        due("rank 4", x.laid(1, 0), 10);
        due("rank 3, just fits", x.laid(2, 0), 10);
        due("never fits", x.laid(3, 0), NONE);
        due("load is carry", x.load(0, 0), 20);
        Checks.rules(x, "carry 21");
        due("with more to carry", x.layOut(), 3);
        due("highest rank first", x.laid(3, 0), 10);
        due("load", x.load(0, 0), 21);
        due("no legs any more", x.laid(2, 2), 0);
        Checks.seals(x, 2, 0, 100);
    }

    private static void layOutOnlyWhatGoes() {
        CourierDesk x = new CourierDesk();
        Checks.single(x, 0, 5, 1, 10);
        x.ride(0, 4, 1, 6);
        x.bag(0, 0, 1, 1, 0, 10);
        due("comes", x.layOut(), 0);
        due("not by a ride that nobody took", x.laid(0, 0), 10);
        x.shut(1, 10, 10);
        due("as laid out last", x.laid(0, 0), 10);
        due("doesn't come any more", x.layOut(), 1);
        due("nothing lies there", x.load(0, 0), 0);
        due("he has it still", x.taken(0, 0), 0);
    }

    private static void layOutIsKept() {
        CourierDesk x = new CourierDesk();
        x.courier(0, 0);
        x.ride(0, 5, 1, 10);
        x.ride(1, 12, 2, 15);
        x.ride(0, 7, 2, 9);
        x.take(0, 0);
        x.take(0, 1);
        x.bag(0, 0, 2, 7, 0, 10);
        x.layOut();
        x.bag(0, 3, 2, 8, 0, 10);
        due("ill", x.ill(0, 0), 2);
        due("takes another one", x.take(0, 2), 0);
        due("comes as laid out", x.laid(0, 0), 15);
        due("leg 0", x.leg(0, 0, 1), 0);
        due("leg 1", x.leg(0, 1, 1), 1);
        due("hand", x.hand(0, 11), 0);
        due("seals", x.laid(0, 3), 3);
        due("load of the other one", x.load(0, 0), 0);
        due("wasn't there, hour", x.laid(1, 0), NONE);
        due("wasn't there, late", x.laid(1, 1), NONE);
        due("wasn't there, legs", x.laid(1, 2), 0);
        due("wasn't there, seals", x.laid(1, 3), 0);
        due("wasn't there, leg", x.leg(1, 0, 0), NONE);
        due("wasn't there, seal", x.seal(1, 0, 0), NONE);
        due("wasn't there, ahead", x.hand(1, 2), NONE);
        due("wasn't there, hand", x.hand(1, 3), 100);
        due("wasn't there, hand for ever", x.hand(1, 999), 100);
        due("laid out anew", x.layOut(), 0);
        due("comes anew", x.laid(0, 0), 9);
    }

    private static void handsAndSeals() {
        CourierDesk x = new CourierDesk();
        Checks.single(x, 0, 5, 1, 10);
        Checks.single(x, 1, 12, 2, 20);
        x.bag(0, 3, 2, 1, 0, 10);
        due("layOut", x.layOut(), 0);
        Checks.seals(x, 0, 3, 100, 5, 0, 10, 101, 12, 1, 20, 102);
        int[] hours = {0, 2, 3, 4, 5, 9, 10, 11, 12, 19, 20, 999};
        int[] hands = {NONE, NONE, 100, 100, 0, 0, 101, 101, 1, 1, 102, 102};
        for (int i = 0; i < hours.length; i++) {
            due("hand at " + hours[i], x.hand(0, hours[i]), hands[i]);
        }
        due("hand at -1", x.hand(0, -1), NONE);
        due("hand at 1000", x.hand(0, 1000), NONE);
        due("hand of no bag", x.hand(1, 5), NONE);
        due("hand of -1", x.hand(-1, 5), NONE);
        due("seal -1", x.seal(0, -1, 0), NONE);
        due("seal what 2", x.seal(0, 0, 2), NONE);
        due("seal what -1", x.seal(0, 0, -1), NONE);
        due("seal of no bag", x.seal(1, 0, 0), NONE);
    }

    private static void handsKept() {
        CourierDesk x = new CourierDesk();
        x.courier(0, 0);
        x.ride(0, 5, 1, 10);
        x.ride(1, 13, 2, 20);
        x.take(0, 0);
        x.take(0, 1);
        x.bag(0, 5, 2, 1, 0, 10);
        due("layOut", x.layOut(), 0);
        Checks.seals(x, 0, 5, 100, 5, 0, 20, 102);
        due("hand in its first hour", x.hand(0, 5), 0);
        due("hand between", x.hand(0, 11), 0);
    }

    private static void handsNotNextTaken() {
        CourierDesk x = new CourierDesk();
        x.courier(0, 0);
        x.ride(0, 5, 1, 6);
        x.ride(1, 7, 0, 8);
        x.ride(0, 9, 1, 10);
        x.ride(1, 11, 2, 12);
        for (int i = 0; i < 4; i++) {
            due("take", x.take(0, i), 0);
        }
        x.shut(0, 8, 9);
        x.bag(0, 5, 2, 1, 0, 10);
        due("layOut", x.layOut(), 0);
        Checks.seals(x, 0, 5, 100, 5, 0, 6, 101, 11, 0, 12, 102);
        due("the desk has it between", x.hand(0, 8), 101);

        // The twelfth ride of one courier, then the first of the next: side by side, but in other hands.
        CourierDesk y = new CourierDesk();
        y.courier(0, 0);
        y.courier(0, 0);
        for (int i = 0; i < 12; i++) {
            y.ride(i % 2, 10 * i, 1 - i % 2, 10 * i + 1);
            y.take(0, i);
        }
        y.ride(0, 120, 2, 121);
        due("take of the next", y.take(1, 12), 0);
        y.bag(1, 105, 2, 1, 0, 0);
        due("layOut of it", y.layOut(), 0);
        Checks.seals(y, 0, 105, 101, 110, 0, 111, 100, 120, 1, 121, 102);
    }

    private static void handsAtOnce() {
        CourierDesk x = new CourierDesk();
        Checks.single(x, 0, 5, 1, 10);
        Checks.single(x, 1, 10, 2, 20);
        x.bag(0, 5, 2, 1, 0, 10);
        due("layOut", x.layOut(), 0);
        Checks.seals(x, 0, 5, 100, 5, 0, 10, 101, 10, 1, 20, 102);
        due("hand at the change", x.hand(0, 10), 1);
        due("hand ahead of it", x.hand(0, 9), 0);
    }

    private static void handsWithoutWay() {
        CourierDesk x = new CourierDesk();
        x.bag(4, 7, 2, 1, 0, 10);
        due("never laid out, ahead", x.hand(0, 6), NONE);
        due("never laid out", x.hand(0, 7), 104);
        Checks.seals(x, 0);
        due("layOut", x.layOut(), 1);
        due("without a way, ahead", x.hand(0, 6), NONE);
        due("without a way", x.hand(0, 7), 104);
        due("without a way for ever", x.hand(0, 999), 104);
        Checks.seals(x, 0, 7, 104);
        x.bag(3, 999, 2, 1, 0, 10);
        Checks.seals(x, 1);
        due("layOut of both", x.layOut(), 2);
        Checks.seals(x, 0, 7, 104);
        Checks.seals(x, 1, 999, 103);
        Checks.single(x, 4, 8, 2, 9);
        due("layOut with a courier", x.layOut(), 1);
        Checks.seals(x, 0, 7, 104, 8, 0, 9, 102);
        x.ill(0, 0);
        due("layOut without him", x.layOut(), 2);
        Checks.seals(x, 0, 7, 104);
    }

    private static void loads() {
        CourierDesk x = new CourierDesk();
        x.courier(0, 0);
        x.ride(0, 5, 1, 10);
        x.ride(1, 12, 2, 15);
        x.take(0, 0);
        x.bag(0, 0, 1, 7, 0, 10);
        x.bag(0, 0, 1, 8, 0, 10);
        due("ahead of layOut", x.load(0, 0), 0);
        x.layOut();
        x.take(0, 1);
        due("both", x.load(0, 0), 15);
        due("taken since", x.load(0, 1), 0);
        due("not taken", x.load(0, 2), NONE);
        due("load -1", x.load(0, -1), NONE);
        due("load of nobody", x.load(1, 0), NONE);
        x.ill(0, 0);
        due("taken no more", x.load(0, 0), NONE);
        x.take(0, 0);
        due("taken again since", x.load(0, 0), 0);
        x.layOut();
        x.layOut();
        due("laid out twice", x.load(0, 0), 15);
    }

    private static void soonest() {
        CourierDesk x = new CourierDesk();
        x.ride(0, 10, 1, 20);
        x.ride(1, 20, 2, 25);
        x.ride(0, 11, 2, 26);
        x.ride(1, 19, 2, 21);
        due("two rides", x.soonest(0, 10, 2), 25);
        due("one ride", x.soonest(0, 11, 2), 26);
        due("too late", x.soonest(0, 12, 2), NONE);
        due("never", x.soonest(0, 0, 3), NONE);
        due("the same", x.soonest(3, 77, 3), 77);
        due("from between", x.soonest(1, 19, 2), 21);
        x.shut(1, 20, 20);
        due("shut", x.soonest(0, 10, 2), 26);
        due("shut goal", x.soonest(0, 10, 1), NONE);
        due("the same, shut", x.soonest(1, 20, 1), 20);
        due("town -1", x.soonest(-1, 0, 0), NONE);
        due("town 8", x.soonest(8, 0, 0), NONE);
        due("to -1", x.soonest(0, 0, -1), NONE);
        due("to 8", x.soonest(0, 0, 8), NONE);
        due("hour -1", x.soonest(0, -1, 0), NONE);
        due("hour 1000", x.soonest(0, 1000, 0), NONE);
    }

    private static void soonestSleeps() {
        CourierDesk x = new CourierDesk();
        x.ride(0, 0, 1, 10);
        x.ride(1, 12, 2, 25);
        due("awake too long", x.soonest(0, 0, 2), NONE);
        x.ride(1, 18, 2, 40);
        due("by rest", x.soonest(0, 0, 2), 40);
        x.ride(0, 2, 1, 12);
        due("fresh later", x.soonest(0, 0, 2), 25);
        x.ride(2, 25, 3, 27);
        due("just too long", x.soonest(0, 0, 3), NONE);
        x.ride(2, 25, 3, 26);
        due("just 24", x.soonest(0, 0, 3), 26);
        Checks.rules(x, "wake 9");
        due("by other rules", x.soonest(0, 0, 1), NONE);
        Checks.rules(x, "wake 13;rest 2");
        due("by less rest", x.soonest(0, 0, 2), 25);
    }

    private static void everywhere() {
        CourierDesk x = new CourierDesk();
        x.ride(0, 10, 1, 20);
        x.ride(0, 10, 2, 15);
        x.ride(1, 20, 7, 22);
        due("own town", x.everywhere(0, 5, 1), 5);
        due("one", x.everywhere(0, 5, 2), 20);
        due("all of three", x.everywhere(0, 5, 7), 20);
        due("the last town", x.everywhere(0, 5, 128 + 4), 22);
        due("one never", x.everywhere(0, 5, 8 + 2), NONE);
        due("none of a set", x.everywhere(0, 5, 0), NONE);
        due("set 255", x.everywhere(0, 5, 255), NONE);
        due("set 256", x.everywhere(0, 5, 256), NONE);
        due("set 257", x.everywhere(0, 5, 257), NONE);
        due("set -1", x.everywhere(0, 5, -1), NONE);
        due("town 8", x.everywhere(8, 5, 1), NONE);
        due("town -1", x.everywhere(-1, 5, 1), NONE);
        due("hour 1000", x.everywhere(0, 1000, 1), NONE);
        due("hour -1", x.everywhere(0, -1, 1), NONE);
        for (int t = 3; t < 7; t++) {
            x.ride(0, 30, t, 30 + t);
        }
        due("set 255 now", x.everywhere(0, 5, 255), 36);
    }

    private static void count() {
        CourierDesk x = new CourierDesk();
        x.ride(0, 1, 1, 2);
        x.ride(0, 1, 1, 2);
        x.courier(0, 0);
        x.courier(0, 0);
        x.courier(0, 0);
        x.bag(0, 0, 1, 1, 0, 0);
        x.shut(5, 0, 0);
        x.shut(5, 0, 0);
        x.shut(5, 0, 0);
        x.shut(5, 0, 0);
        x.take(2, 0);
        Checks.rules(x, "wake 11;rest 12;carry 13;pay 14;wait 15");
        Checks.write(x, "abcde");
        int[] want = {2, 3, 1, 4, 5, NONE, NONE, NONE, NONE, NONE, 11, 12, 13, 14, 15, NONE, NONE, NONE, NONE, NONE,
            0, 0, 1, NONE, NONE, NONE, NONE};
        for (int what = 0; what < want.length; what++) {
            due("count(" + what + ")", x.count(what), want[what]);
        }
        due("count(-1)", x.count(-1), NONE);
        due("count least", x.count(Integer.MIN_VALUE), NONE);
        due("count most", x.count(Integer.MAX_VALUE), NONE);
    }
}
