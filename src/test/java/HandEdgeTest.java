/** The edges of hands, seals and loads: a test for each sentence that names one. */
public final class HandEdgeTest {
    private static final int NONE = CourierDesk.NONE;
    private static final int LEAST = Integer.MIN_VALUE;
    private static final int MOST = Integer.MAX_VALUE;

    private HandEdgeTest() {
    }

    private static void due(String call, long got, long want) {
        Checks.due(call, got, want);
    }

    public static void main(String[] args) {
        nobodyAheadOfItsHour();
        deskUntilItLeaves();
        deskOfEachTown();
        courierFromLeavingUpToComing();
        courierOfEachNumber();
        keptByTheNextTaken();
        keptForNoHour();
        keptOverThreeLegs();
        notKeptByAnotherCourier();
        notKeptOverARideBetween();
        notKeptByNeighbourSlots();
        deskForNoHour();
        leavesInItsFirstHour();
        endsOfTime();
        sealsInTheirOrder();
        sealsOfFewerLegsThanBefore();
        firstSealAsTheDeskHasItFirst();
        handAndSealsAgree();
        handAsLaidOutLast();
        handWithoutBeingLaidOut();
        handHours();
        handWithoutThese();
        loadAsLaidOutLast();
        loadTakenSince();
        loadWithoutIt();
        loadOfTwoOnOneRide();
        Checks.close("HandEdgeTest");
    }

    /** What hand() answers from one hour up to another, that one not. */
    private static void hands(CourierDesk x, int from, int upTo, int want) {
        for (int hour = from; hour < upTo; hour++) {
            due("hand at " + hour, x.hand(0, hour), want);
        }
    }

    private static void nobodyAheadOfItsHour() {
        Checks.sentence("ahead of its HOUR nobody has a BAG");
        int[] hours = {0, 1, 50, 998, 999};
        for (int there : hours) {
            CourierDesk x = new CourierDesk();
            x.bag(3, there, 1, 1, 0, 0);
            x.layOut();
            due("hand an hour ahead of " + there, x.hand(0, there - 1), NONE);
            due("hand at 0, there at " + there, x.hand(0, 0), there == 0 ? 103 : NONE);
            due("hand at " + there, x.hand(0, there), 103);
        }
        CourierDesk y = new CourierDesk();
        Checks.single(y, 0, 20, 1, 30);
        y.bag(0, 10, 1, 1, 0, 0);
        y.layOut();
        hands(y, 0, 10, NONE);
        hands(y, 10, 20, 100);
    }

    private static void deskUntilItLeaves() {
        Checks.sentence("then the TOWN's desk has it (100 + TOWN) until it leaves");
        for (int leaves = 10; leaves <= 20; leaves++) {
            CourierDesk x = new CourierDesk();
            Checks.single(x, 5, leaves, 1, 30);
            x.bag(5, 10, 1, 1, 0, 0);
            x.layOut();
            hands(x, 10, leaves, 105);
            due("hand as it leaves at " + leaves, x.hand(0, leaves), 0);
        }
    }

    private static void deskOfEachTown() {
        Checks.sentence("(100 + TOWN)");
        for (int town = 0; town <= 7; town++) {
            int to = (town + 1) % 8;
            CourierDesk x = new CourierDesk();
            Checks.single(x, town, 5, to, 9);
            x.bag(town, 3, to, 1, 0, 0);
            x.layOut();
            Checks.seals(x, 0, 3, 100 + town, 5, 0, 9, 100 + to);
            due("hand at first", x.hand(0, 3), 100 + town);
            due("hand at last", x.hand(0, 999), 100 + to);
        }
    }

    private static void courierFromLeavingUpToComing() {
        Checks.sentence("a COURIER from the HOUR at which his LEG leaves on, up to the HOUR at which it comes, that HOUR"
            + " not");
        for (int comes = 11; comes <= 34; comes++) {
            CourierDesk x = new CourierDesk();
            Checks.single(x, 0, 10, 1, comes);
            x.bag(0, 0, 1, 1, 0, 0);
            x.layOut();
            due("hand ahead of leaving", x.hand(0, 9), 100);
            hands(x, 10, comes, 0);
            due("hand as it comes", x.hand(0, comes), 101);
        }
    }

    private static void courierOfEachNumber() {
        Checks.sentence("the COURIER, 100 + TOWN");
        CourierDesk x = new CourierDesk();
        for (int c = 0; c < 6; c++) {
            Checks.single(x, c, 10, c + 1, 20);
            x.bag(c, 0, c + 1, 1, 0, 0);
        }
        due("layOut", x.layOut(), 0);
        for (int c = 0; c < 6; c++) {
            due("hand of bag " + c + " at 10", x.hand(c, 10), c);
            due("hand of bag " + c + " at 20", x.hand(c, 20), 101 + c);
            Checks.seals(x, c, 0, 100 + c, 10, c, 20, 101 + c);
        }
    }

    /** A courier takes two rides, and a bag goes with him on both. */
    private static CourierDesk twoRides(int secondLeaves) {
        CourierDesk x = new CourierDesk();
        x.courier(0, 0);
        x.ride(0, 5, 1, 9);
        x.ride(1, secondLeaves, 2, 30);
        due("takes", x.take(0, 0) + x.take(0, 1), 0);
        x.bag(0, 2, 2, 4, 0, 0);
        due("layOut", x.layOut(), 0);
        return x;
    }

    private static void keptByTheNextTaken() {
        Checks.sentence("from then on, if its next LEG is that COURIER's next one TAKEN, he keeps it");
        CourierDesk x = twoRides(20);
        Checks.seals(x, 0, 2, 100, 5, 0, 30, 102);
        hands(x, 0, 2, NONE);
        hands(x, 2, 5, 100);
        hands(x, 5, 30, 0);
        hands(x, 30, 40, 102);
    }

    private static void keptForNoHour() {
        Checks.sentence("he keeps it");
        CourierDesk x = new CourierDesk();
        Checks.rules(x, "wake 99");
        x.courier(0, 0);
        x.ride(0, 5, 1, 9);
        x.ride(1, 9, 2, 12);
        due("takes", x.take(0, 0) + x.take(0, 1), 0);
        x.bag(0, 5, 2, 1, 0, 0);
        due("layOut", x.layOut(), 0);
        Checks.seals(x, 0, 5, 100, 5, 0, 12, 102);
        hands(x, 5, 12, 0);
    }

    private static void keptOverThreeLegs() {
        Checks.sentence("if its next LEG is that COURIER's next one TAKEN, he keeps it; else the desk of that TOWN");
        CourierDesk x = new CourierDesk();
        x.courier(0, 0);
        for (int i = 0; i < 3; i++) {
            x.ride(i, 10 * i, i + 1, 10 * i + 2);
            due("take", x.take(0, i), 0);
        }
        Checks.single(x, 3, 30, 4, 32);
        x.bag(0, 0, 4, 1, 0, 0);
        due("layOut", x.layOut(), 0);
        Checks.legs(x, 0, 0, 0, 0, 1, 0, 2, 1, 3);
        Checks.seals(x, 0, 0, 100, 0, 0, 22, 103, 30, 1, 32, 104);
        hands(x, 0, 22, 0);
        hands(x, 22, 30, 103);
        hands(x, 30, 32, 1);
    }

    private static void notKeptByAnotherCourier() {
        Checks.sentence("else the desk of that TOWN");
        CourierDesk x = new CourierDesk();
        Checks.single(x, 0, 5, 1, 9);
        Checks.single(x, 1, 12, 2, 15);
        x.bag(0, 5, 2, 1, 0, 0);
        due("layOut", x.layOut(), 0);
        Checks.seals(x, 0, 5, 100, 5, 0, 9, 101, 12, 1, 15, 102);
        hands(x, 5, 9, 0);
        hands(x, 9, 12, 101);
        hands(x, 12, 15, 1);
        hands(x, 15, 20, 102);
    }

    private static void notKeptOverARideBetween() {
        Checks.sentence("that COURIER's next one TAKEN");
        CourierDesk x = new CourierDesk();
        x.courier(0, 0);
        x.ride(0, 5, 1, 6);
        x.ride(1, 7, 3, 8);
        x.ride(3, 9, 1, 10);
        x.ride(1, 11, 2, 12);
        for (int i = 0; i < 4; i++) {
            due("take", x.take(0, i), 0);
        }
        x.bag(0, 5, 2, 1, 0, 0);
        due("layOut", x.layOut(), 0);
        Checks.legs(x, 0, 0, 0, 0, 3);
        Checks.seals(x, 0, 5, 100, 5, 0, 6, 101, 11, 0, 12, 102);
        hands(x, 6, 11, 101);
    }

    private static void notKeptByNeighbourSlots() {
        Checks.sentence("if its next LEG is that COURIER's next one TAKEN");
        CourierDesk x = new CourierDesk();
        x.courier(0, 0);
        for (int i = 0; i < 12; i++) {
            x.ride(i % 2, 10 * i, 1 - i % 2, 10 * i + 1);
            due("take", x.take(0, i), 0);
        }
        Checks.single(x, 0, 120, 2, 121);
        x.bag(1, 105, 2, 1, 0, 0);
        due("layOut", x.layOut(), 0);
        Checks.legs(x, 0, 0, 11, 1, 12);
        Checks.seals(x, 0, 105, 101, 110, 0, 111, 100, 120, 1, 121, 102);
    }

    private static void deskForNoHour() {
        Checks.sentence("SEALS are the changes of HANDS in their order");
        CourierDesk x = new CourierDesk();
        Checks.single(x, 0, 5, 1, 9);
        Checks.single(x, 1, 9, 2, 15);
        x.bag(0, 2, 2, 1, 0, 0);
        due("layOut", x.layOut(), 0);
        Checks.seals(x, 0, 2, 100, 5, 0, 9, 101, 9, 1, 15, 102);
        due("hand ahead of the change", x.hand(0, 8), 0);
        due("hand at the change", x.hand(0, 9), 1);
    }

    private static void leavesInItsFirstHour() {
        Checks.sentence("the first one as the desk has it first");
        CourierDesk x = new CourierDesk();
        Checks.single(x, 0, 5, 1, 9);
        x.bag(0, 5, 1, 1, 0, 0);
        due("layOut", x.layOut(), 0);
        Checks.seals(x, 0, 5, 100, 5, 0, 9, 101);
        due("hand ahead", x.hand(0, 4), NONE);
        due("hand in its first hour", x.hand(0, 5), 0);
    }

    private static void endsOfTime() {
        Checks.sentence("HOURS 0 to 999");
        CourierDesk x = new CourierDesk();
        x.courier(0, 0);
        x.ride(0, 0, 1, 1);
        x.ride(1, 998, 2, 999);
        due("takes", x.take(0, 0) + x.take(0, 1), 0);
        x.bag(0, 0, 2, 1, 0, 0);
        due("layOut", x.layOut(), 0);
        Checks.seals(x, 0, 0, 100, 0, 0, 999, 102);
        due("hand at 0", x.hand(0, 0), 0);
        due("hand at 998", x.hand(0, 998), 0);
        due("hand at 999", x.hand(0, 999), 102);
    }

    private static void sealsInTheirOrder() {
        Checks.sentence("in their order");
        CourierDesk x = new CourierDesk();
        Checks.single(x, 2, 20, 3, 25);
        Checks.single(x, 1, 10, 2, 15);
        Checks.single(x, 0, 0, 1, 5);
        x.bag(0, 0, 3, 1, 0, 0);
        due("layOut", x.layOut(), 0);
        Checks.seals(x, 0, 0, 100, 0, 2, 5, 101, 10, 1, 15, 102, 20, 0, 25, 103);
    }

    private static void sealsOfFewerLegsThanBefore() {
        Checks.sentence("SEAL i of a BAG, as LAID OUT last");
        CourierDesk x = twoRides(20);
        Checks.seals(x, 0, 2, 100, 5, 0, 30, 102);
        x.ill(0, 0);
        int direct = x.ride(0, 6, 2, 10);
        due("take of a ride that leads there at once", x.take(0, direct), 0);
        due("layOut", x.layOut(), 0);
        Checks.legs(x, 0, 0, direct);
        Checks.seals(x, 0, 2, 100, 6, 0, 10, 102);
        due("hand as it comes", x.hand(0, 10), 102);
    }

    private static void firstSealAsTheDeskHasItFirst() {
        Checks.sentence("the first one as the desk has it first");
        int[] hours = {0, 1, 500, 999};
        for (int hour : hours) {
            CourierDesk x = new CourierDesk();
            x.bag(6, hour, 1, 1, 0, 0);
            Checks.seals(x, 0);
            due("layOut", x.layOut(), 1);
            Checks.seals(x, 0, hour, 106);
        }
    }

    private static void handAndSealsAgree() {
        Checks.sentence("who has it from then on (as hand())");
        CourierDesk x = new CourierDesk();
        Checks.single(x, 0, 5, 1, 9);
        Checks.single(x, 1, 12, 2, 15);
        x.bag(0, 2, 2, 1, 0, 0);
        due("layOut", x.layOut(), 0);
        for (int i = 0; i < 5; i++) {
            int hour = x.seal(0, i, 0);
            due("hand from seal " + i + " on", x.hand(0, hour), x.seal(0, i, 1));
            due("hand ahead of seal " + i, x.hand(0, hour - 1), x.seal(0, i - 1, 1));
        }
    }

    private static void handAsLaidOutLast() {
        Checks.sentence("HANDS of a BAG at an HOUR, as LAID OUT last");
        CourierDesk x = twoRides(20);
        x.ill(0, 0);
        x.shut(0, 0, 999);
        Checks.rules(x, "carry 1");
        hands(x, 2, 5, 100);
        hands(x, 5, 30, 0);
        due("hand at 30", x.hand(0, 30), 102);
        Checks.seals(x, 0, 2, 100, 5, 0, 30, 102);
        Checks.legs(x, 0, 0, 0, 0, 1);
        due("layOut anew", x.layOut(), 1);
        hands(x, 2, 40, 100);
        Checks.seals(x, 0, 2, 100);
    }

    private static void handWithoutBeingLaidOut() {
        Checks.sentence("(without that the desk of its TOWN for ever)");
        CourierDesk x = new CourierDesk();
        Checks.single(x, 4, 5, 1, 9);
        x.bag(4, 3, 1, 1, 0, 0);
        hands(x, 3, 40, 104);
        due("hand at 999", x.hand(0, 999), 104);
        x.layOut();
        x.bag(6, 0, 1, 1, 0, 0);
        int[] hours = {0, 1, 5, 500, 999};
        for (int hour : hours) {
            due("hand of one that wasn't there then, at " + hour, x.hand(1, hour), 106);
        }
    }

    private static void handHours() {
        Checks.sentence("HOURS 0 to 999");
        CourierDesk never = new CourierDesk();
        never.bag(3, 0, 1, 1, 0, 0);
        CourierDesk laid = new CourierDesk();
        laid.bag(3, 0, 1, 1, 0, 0);
        laid.layOut();
        int[] hours = {0, 1, 998, 999};
        int[] wrong = {-1, 1000, LEAST, LEAST + 1, MOST, MOST - 1, 1256, -1000};
        for (int hour : hours) {
            due("hand of one never laid out, at " + hour, never.hand(0, hour), 103);
            due("hand of one laid out, at " + hour, laid.hand(0, hour), 103);
        }
        for (int hour : wrong) {
            due("hand of one never laid out, at " + hour, never.hand(0, hour), NONE);
            due("hand of one laid out, at " + hour, laid.hand(0, hour), NONE);
        }
    }

    private static void handWithoutThese() {
        Checks.sentence("NONE: nobody, or without these.");
        due("hand of none", new CourierDesk().hand(0, 5), NONE);
        CourierDesk x = new CourierDesk();
        for (int bags = 1; bags <= 12; bags++) {
            x.bag(2, 0, 1, 1, 0, 0);
            x.layOut();
            Checks.range("hand bag of " + bags, 0, bags - 1, 102, b -> x.hand(b, 5));
        }
        due("hand without both", x.hand(12, 1000), NONE);
    }

    private static void loadAsLaidOutLast() {
        Checks.sentence("What lies with a COURIER on RIDE i TAKEN, as LAID OUT last: the weight");
        CourierDesk x = twoRides(20);
        due("load 0", x.load(0, 0), 4);
        due("load 1", x.load(0, 1), 4);
        x.bag(0, 2, 1, 5, 0, 0);
        due("load, with a bag that wasn't there then", x.load(0, 0), 4);
        x.shut(1, 20, 20);
        due("load, shut since", x.load(0, 1), 4);
        due("ill", x.ill(0, 20), 1);
        due("load of the one he has still", x.load(0, 0), 4);
        due("layOut anew", x.layOut(), 1);
        due("load 0 anew", x.load(0, 0), 5);
        due("load 1 anew", x.load(0, 1), NONE);
    }

    private static void loadTakenSince() {
        Checks.sentence("(0 if he has TAKEN it since)");
        CourierDesk x = new CourierDesk();
        x.courier(0, 0);
        x.ride(0, 5, 1, 9);
        x.ride(1, 20, 2, 30);
        x.bag(0, 0, 1, 7, 0, 0);
        x.take(0, 0);
        due("load, never laid out", x.load(0, 0), 0);
        x.layOut();
        x.take(0, 1);
        due("load of the one taken then", x.load(0, 0), 7);
        due("load of the one taken since", x.load(0, 1), 0);
        x.ill(0, 0);
        x.take(0, 0);
        due("load of the same one, taken anew since", x.load(0, 0), 0);
        x.courier(0, 0);
        x.take(1, 0);
        due("load of another courier's", x.load(1, 0), 0);
    }

    private static void loadWithoutIt() {
        Checks.sentence("NONE without it.");
        CourierDesk x = new CourierDesk();
        due("load of nobody", x.load(0, 0), NONE);
        x.courier(0, 0);
        due("load of one who has taken none", x.load(0, 0), NONE);
        for (int rides = 1; rides <= 12; rides++) {
            int i = rides - 1;
            x.ride(i % 2, 10 * i, 1 - i % 2, 10 * i + 1);
            x.take(0, i);
            Checks.range("load i of " + rides, 0, i, 0, place -> x.load(0, place));
        }
        Checks.range("load courier", 0, 0, 0, c -> x.load(c, 11));
        x.ill(0, 110);
        due("load of one taken no more", x.load(0, 11), NONE);
    }

    private static void loadOfTwoOnOneRide() {
        Checks.sentence("What lies with a COURIER on RIDE i TAKEN");
        CourierDesk x = new CourierDesk();
        x.ride(0, 5, 1, 9);
        x.courier(0, 0);
        x.courier(0, 0);
        due("takes", x.take(0, 0) + x.take(1, 0), 0);
        x.bag(0, 0, 1, 15, 0, 0);
        x.bag(0, 0, 1, 6, 0, 0);
        x.bag(0, 0, 1, 5, 0, 0);
        due("layOut", x.layOut(), 0);
        due("load of the first courier", x.load(0, 0), 20);
        due("load of the second", x.load(1, 0), 6);
    }
}
