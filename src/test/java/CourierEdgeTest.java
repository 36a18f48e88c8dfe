/** The edges of couriers and the rides that they take: a test for each sentence that names one. */
public final class CourierEdgeTest {
    private static final int NONE = CourierDesk.NONE;
    private static final int LEAST = Integer.MIN_VALUE;
    private static final int MOST = Integer.MAX_VALUE;

    private CourierEdgeTest() {
    }

    private static void due(String call, long got, long want) {
        Checks.due(call, got, want);
    }

    public static void main(String[] args) {
        courierTowns();
        courierHours();
        courierSix();
        readyFromAnHourOn();
        noSuchCourier();
        noSuchRide();
        twelveAtMost();
        twelveComesFirst();
        notWhereHeIs();
        aheadOfHisHour();
        doesNotGo();
        awakeTooLong();
        leastThatHolds();
        freshWithTheFirst();
        restHoursOrMore();
        awakeSinceFresh();
        restInThatTown();
        oneRideOfTwoCouriers();
        laterRulesChangeNothing();
        laterSpellsChangeNothing();
        illThenOrLater();
        illAtTheEndsOfTime();
        illHowMany();
        illWithoutHimOrHour();
        illWhereHeIsThen();
        illOneAlone();
        takenOfEachPlace();
        awakeOfEachPlace();
        payWithoutHim();
        payOnRides();
        payBetween();
        payEnds();
        Checks.close("CourierEdgeTest");
    }

    private static void courierTowns() {
        Checks.sentence("TOWNS 0 to 7");
        Checks.range("courier town", 0, 7, 0, t -> new CourierDesk().courier(t, 5));
    }

    private static void courierHours() {
        Checks.sentence("HOURS 0 to 999");
        Checks.range("courier hour", 0, 999, 0, h -> new CourierDesk().courier(3, h));
    }

    private static void courierSix() {
        Checks.sentence("the number; NONE: there are 6, or something is not as told.");
        CourierDesk x = new CourierDesk();
        for (int c = 0; c < 6; c++) {
            due("refused ahead of courier " + c, x.courier(8, 0), NONE);
            due("count(20 + " + c + ") ahead", x.count(20 + c), NONE);
            due("courier " + c, x.courier(c, 0), c);
            due("couriers", x.count(1), c + 1);
            due("count(20 + " + c + ")", x.count(20 + c), 0);
        }
        due("seventh courier", x.courier(6, 0), NONE);
        due("seventh courier again", x.courier(6, 0), NONE);
        due("couriers", x.count(1), 6);
        x.ride(5, 1, 6, 2);
        due("the last one takes a ride", x.take(5, 0), 0);
    }

    private static void readyFromAnHourOn() {
        Checks.sentence("where he is ready from an HOUR on");
        for (int hour = 0; hour <= 12; hour++) {
            CourierDesk x = new CourierDesk();
            x.courier(0, hour);
            x.ride(0, 6, 1, 9);
            due("ready at " + hour + ", ride at 6", x.take(0, 0), hour <= 6 ? 0 : 3);
        }
        CourierDesk y = new CourierDesk();
        y.courier(0, 999);
        y.courier(0, 998);
        y.ride(0, 998, 1, 999);
        due("ready at 999", y.take(0, 0), 3);
        due("ready at 998", y.take(1, 0), 0);
    }

    private static void noSuchCourier() {
        Checks.sentence("1 there is no such COURIER");
        CourierDesk x = new CourierDesk();
        x.ride(0, 5, 1, 9);
        int[] nobody = {-1, 2, 3, 5, 6, 7, 12, LEAST, MOST, LEAST + 1, 65536, 256};
        due("take by courier 0 of none", x.take(0, 0), 1);
        x.courier(0, 0);
        due("take by courier 1 of one", x.take(1, 0), 1);
        x.courier(0, 0);
        for (int courier : nobody) {
            due("take by courier " + courier, x.take(courier, 0), 1);
        }
        due("take by the last one", x.take(1, 0), 0);
    }

    private static void noSuchRide() {
        Checks.sentence("1 there is no such COURIER or RIDE");
        CourierDesk x = new CourierDesk();
        x.courier(0, 0);
        due("take of ride 0 of none", x.take(0, 0), 1);
        x.ride(3, 5, 1, 9);
        due("take of ride 1 of one", x.take(0, 1), 1);
        x.ride(0, 5, 1, 9);
        int[] none = {-1, 2, 3, 59, 60, 61, LEAST, MOST, LEAST + 1, 65537, 257};
        for (int ride : none) {
            due("take of ride " + ride, x.take(0, ride), 1);
        }
        due("taken", x.count(20), 0);
        due("take of the last one", x.take(0, 1), 0);
    }

    /** A courier who has taken so many rides of an hour, to and fro, each as fresh as the first. */
    private static CourierDesk toAndFro(int rides) {
        CourierDesk x = new CourierDesk();
        x.courier(0, 0);
        for (int i = 0; i < rides; i++) {
            x.ride(i % 2, 10 * i, 1 - i % 2, 10 * i + 1);
            due("take " + i, x.take(0, i), 0);
        }
        return x;
    }

    private static void twelveAtMost() {
        Checks.sentence("He takes RIDES, 12 at most.");
        for (int rides = 0; rides <= 12; rides++) {
            CourierDesk x = toAndFro(rides);
            due("rides taken", x.count(20), rides);
            int next = x.ride(rides % 2, 200, 1 - rides % 2, 201);
            due("one behind " + rides, x.take(0, next), rides < 12 ? 0 : 1);
            due("rides taken then", x.count(20), rides < 12 ? rides + 1 : 12);
        }
        CourierDesk y = toAndFro(12);
        y.courier(0, 0);
        due("another one takes a ride beside him", y.take(1, 0), 0);
        due("his twelve stand", y.count(20), 12);
        due("he is ill at the last one", y.ill(0, 110), 1);
        due("he takes it again", y.take(0, 11), 0);
        due("and none more", y.take(0, 0), 1);
    }

    private static void twelveComesFirst() {
        Checks.sentence("or he has 12");
        CourierDesk x = toAndFro(12);
        int elsewhere = x.ride(5, 200, 6, 201);
        int ahead = x.ride(0, 50, 1, 51);
        int shut = x.ride(0, 300, 7, 301);
        x.shut(7, 301, 301);
        int tooLong = x.ride(0, 200, 1, 290);
        due("12, and elsewhere", x.take(0, elsewhere), 1);
        due("12, and ahead", x.take(0, ahead), 1);
        due("12, and shut", x.take(0, shut), 1);
        due("12, and awake too long", x.take(0, tooLong), 1);
        x.ill(0, 110);
        due("11: elsewhere", x.take(0, elsewhere), 2);
    }

    private static void notWhereHeIs() {
        Checks.sentence("2 it doesn't leave the TOWN where he is then");
        for (int town = 0; town <= 7; town++) {
            CourierDesk x = new CourierDesk();
            x.courier(3, 0);
            x.ride(3, 5, 6, 9);
            int other = x.ride(town, 20, town == 0 ? 1 : 0, 21);
            due("from " + town + " at first", x.take(0, other), town == 3 ? 0 : 2);
            x.ill(0, 0);
            x.take(0, 0);
            due("from " + town + " then", x.take(0, other), town == 6 ? 0 : 2);
        }
    }

    private static void aheadOfHisHour() {
        Checks.sentence("3 it leaves ahead of the HOUR at which he is there");
        for (int leaves = 0; leaves <= 30; leaves++) {
            CourierDesk x = new CourierDesk();
            x.courier(0, 10);
            x.ride(0, 12, 1, 20);
            int first = x.ride(0, leaves, 1, 31);
            due("first ride at " + leaves, x.take(0, first), leaves < 10 ? 3 : 0);
            x.ill(0, 0);
            x.take(0, 0);
            int second = x.ride(1, leaves, 0, 31);
            due("second ride at " + leaves, x.take(0, second), leaves < 20 ? 3 : 0);
        }
    }

    private static void doesNotGo() {
        Checks.sentence("4 it doesn't go");
        CourierDesk x = new CourierDesk();
        x.courier(0, 0);
        x.ride(0, 5, 1, 9);
        x.shut(0, 5, 5);
        due("shut at the start", x.take(0, 0), 4);
        x.ride(0, 6, 1, 9);
        due("an hour later", x.take(0, 1), 0);
        x.ride(1, 9, 2, 12);
        x.shut(2, 12, 12);
        due("shut at its end", x.take(0, 2), 4);
        due("rides taken", x.count(20), 1);
    }

    private static void awakeTooLong() {
        Checks.sentence("5 he would be awake, as it comes, for more than wake HOURS.");
        for (int wake = 1; wake <= 99; wake++) {
            CourierDesk x = new CourierDesk();
            Checks.rules(x, "wake " + wake);
            x.courier(0, 0);
            due("hours " + wake + " of " + wake, x.take(0, x.ride(0, 100, 1, 100 + wake)), 0);
            due("awake", x.awake(0, 0), wake);
            due("an hour more behind it", x.take(0, x.ride(1, 100 + wake, 0, 101 + wake)), 5);
            x.courier(0, 0);
            if (wake < 99) {
                due("hours " + (wake + 1) + " of " + wake, x.take(1, x.ride(0, 100, 1, 101 + wake)), 5);
            }
        }
        CourierDesk y = new CourierDesk();
        y.courier(0, 0);
        due("25 hours without rules", y.take(0, y.ride(0, 0, 1, 25)), 5);
        due("24 hours without rules", y.take(0, y.ride(0, 0, 1, 24)), 0);
    }

    private static void leastThatHolds() {
        Checks.sentence("0, or the least that holds");
        for (int reasons = 0; reasons < 16; reasons++) {
            CourierDesk x = new CourierDesk();
            x.courier(0, 50);
            x.shut(3, 0, 999);
            int from = (reasons & 1) == 0 ? 0 : 1;
            int leaves = (reasons & 2) == 0 ? 50 : 49;
            int to = (reasons & 4) == 0 ? 2 : 3;
            int hours = (reasons & 8) == 0 ? 24 : 25;
            x.ride(from, leaves, to, leaves + hours);
            int least = reasons == 0 ? 0 : 2 + Integer.numberOfTrailingZeros(reasons);
            due("take with reasons " + Integer.toBinaryString(reasons), x.take(0, 0), least);
            due("rides taken", x.count(20), reasons == 0 ? 1 : 0);
            due("take by nobody", x.take(1, 0), 1);
        }
    }

    private static void freshWithTheFirst() {
        Checks.sentence("He is FRESH as he leaves with the first one");
        for (int ready = 0; ready <= 100; ready += 10) {
            CourierDesk x = new CourierDesk();
            x.courier(0, ready);
            x.ride(0, 100, 1, 124);
            due("24 hours, ready at " + ready, x.take(0, 0), 0);
            due("awake, ready at " + ready, x.awake(0, 0), 24);
        }
        CourierDesk y = new CourierDesk();
        y.courier(0, 0);
        y.ride(0, 5, 1, 29);
        y.take(0, 0);
        y.ill(0, 5);
        due("the first one again, behind an illness", y.take(0, 0), 0);
        due("awake then", y.awake(0, 0), 24);
    }

    private static void restHoursOrMore() {
        Checks.sentence("if he was in that TOWN for rest HOURS or more");
        for (int rest = 1; rest <= 24; rest++) {
            for (int waits = 0; waits <= 26; waits++) {
                CourierDesk x = new CourierDesk();
                Checks.rules(x, "wake 99;rest " + rest);
                x.courier(0, 0);
                x.ride(0, 5, 1, 15);
                x.ride(1, 15 + waits, 2, 18 + waits);
                x.take(0, 0);
                due("take", x.take(0, 1), 0);
                due("awake, rest " + rest + ", in town " + waits, x.awake(0, 1), waits >= rest ? 3 : 13 + waits);
            }
        }
    }

    private static void awakeSinceFresh() {
        Checks.sentence("else he is awake since he was FRESH last");
        CourierDesk x = new CourierDesk();
        x.courier(0, 0);
        x.ride(0, 2, 1, 5);
        x.ride(1, 12, 2, 14);
        x.ride(2, 14, 3, 15);
        x.ride(3, 23, 4, 25);
        x.ride(4, 32, 5, 33);
        x.ride(5, 40, 6, 48);
        x.ride(5, 40, 6, 47);
        for (int ride = 0; ride < 5; ride++) {
            due("take " + ride, x.take(0, ride), 0);
        }
        due("25 since he was fresh last", x.take(0, 5), 5);
        due("24 since he was fresh last", x.take(0, 6), 0);
        int[] awake = {3, 12, 13, 2, 10, 24};
        for (int i = 0; i < awake.length; i++) {
            due("awake " + i, x.awake(0, i), awake[i]);
        }
    }

    private static void restInThatTown() {
        Checks.sentence("if he was in that TOWN for rest HOURS or more");
        CourierDesk x = new CourierDesk();
        x.courier(0, 0);
        x.ride(0, 0, 1, 1);
        x.ride(1, 6, 2, 7);
        x.ride(2, 12, 3, 13);
        x.ride(3, 18, 4, 25);
        x.ride(3, 18, 4, 24);
        due("takes", x.take(0, 0) + x.take(0, 1) + x.take(0, 2), 0);
        due("15 hours in three towns are no rest", x.take(0, 3), 5);
        due("24 hours awake", x.take(0, 4), 0);
    }

    private static void oneRideOfTwoCouriers() {
        Checks.sentence("A RIDE is TAKEN by a COURIER");
        CourierDesk x = new CourierDesk();
        x.ride(0, 5, 1, 9);
        for (int c = 0; c < 6; c++) {
            x.courier(0, 0);
            due("take by courier " + c, x.take(c, 0), 0);
            due("taken by courier " + c, x.taken(c, 0), 0);
        }
        due("again by the same one", x.take(3, 0), 2);
    }

    private static void laterRulesChangeNothing() {
        Checks.sentence("(What is told later of SHUT TOWNS and RULES changes nothing of what was TAKEN");
        CourierDesk x = new CourierDesk();
        x.courier(0, 0);
        x.ride(0, 0, 1, 20);
        x.ride(1, 28, 2, 30);
        x.ride(2, 31, 3, 33);
        x.take(0, 0);
        x.take(0, 1);
        Checks.rules(x, "wake 5;rest 9");
        due("rides taken", x.count(20), 2);
        due("awake 0, over wake now", x.awake(0, 0), 20);
        due("awake 1, by the rest of then", x.awake(0, 1), 2);
        due("the next one, awake since 28", x.take(0, 2), 0);
        due("awake 2", x.awake(0, 2), 5);
        Checks.rules(x, "rest 1");
        due("awake 2, by the rest of then", x.awake(0, 2), 5);
        Checks.rules(x, "wake 4;rest 9");
        x.ill(0, 31);
        due("taken anew, by the rules of now", x.take(0, 2), 5);
    }

    private static void laterSpellsChangeNothing() {
        Checks.sentence("(What is told later of SHUT TOWNS and RULES changes nothing of what was TAKEN, but for 4");
        CourierDesk x = new CourierDesk();
        x.courier(0, 0);
        x.ride(0, 0, 1, 5);
        x.ride(1, 6, 2, 7);
        x.take(0, 0);
        x.shut(1, 5, 5);
        due("rides taken", x.count(20), 1);
        due("taken", x.taken(0, 0), 0);
        due("awake", x.awake(0, 0), 5);
        due("pay", x.pay(0), 5);
        due("the next one from where he is", x.take(0, 1), 0);
        due("ill", x.ill(0, 0), 2);
        due("it can't be taken anew", x.take(0, 0), 4);
    }

    private static void illThenOrLater() {
        Checks.sentence("RIDES that he has TAKEN and that leave then or later are TAKEN no more: how many");
        for (int hour = 0; hour <= 130; hour++) {
            CourierDesk x = toAndFro(12);
            int kept = Math.min(12, (hour + 9) / 10);
            due("ill at " + hour, x.ill(0, hour), 12 - kept);
            due("rides taken", x.count(20), kept);
            due("the last one", x.taken(0, kept - 1), kept - 1);
            due("behind it", x.taken(0, kept), NONE);
        }
    }

    private static void illAtTheEndsOfTime() {
        Checks.sentence("A COURIER is ill from an HOUR on");
        CourierDesk x = new CourierDesk();
        x.courier(0, 0);
        x.ride(0, 0, 1, 1);
        x.ride(1, 998, 0, 999);
        x.take(0, 0);
        x.take(0, 1);
        due("ill at 999", x.ill(0, 999), 0);
        due("ill at 998", x.ill(0, 998), 1);
        due("ill at 1", x.ill(0, 1), 0);
        due("ill at 0", x.ill(0, 0), 1);
        due("ill at 0 again", x.ill(0, 0), 0);
        due("rides taken", x.count(20), 0);
    }

    private static void illHowMany() {
        Checks.sentence("how many");
        for (int rides = 0; rides <= 12; rides++) {
            CourierDesk x = toAndFro(rides);
            due("ill from 0 on, of " + rides, x.ill(0, 0), rides);
            due("ill again", x.ill(0, 0), 0);
        }
    }

    private static void illWithoutHimOrHour() {
        Checks.sentence("NONE without him, or such an HOUR.");
        Checks.range("ill hour", 0, 999, 0, h -> {
            CourierDesk x = new CourierDesk();
            x.courier(0, 0);
            return x.ill(0, h);
        });
        Checks.range("ill courier", 0, 2, 0, c -> {
            CourierDesk x = new CourierDesk();
            x.courier(0, 0);
            x.courier(1, 0);
            x.courier(2, 0);
            return x.ill(c, 5);
        });
        CourierDesk x = toAndFro(3);
        due("ill at -1", x.ill(0, -1), NONE);
        due("ill at 1000", x.ill(0, 1000), NONE);
        due("ill at least", x.ill(0, LEAST), NONE);
        due("ill of the next one", x.ill(1, 0), NONE);
        due("rides taken still", x.count(20), 3);
    }

    private static void illWhereHeIsThen() {
        Checks.sentence("are TAKEN no more");
        CourierDesk x = new CourierDesk();
        x.courier(0, 3);
        x.ride(0, 3, 1, 5);
        x.ride(1, 5, 2, 7);
        x.ride(1, 4, 2, 7);
        x.ride(0, 2, 2, 7);
        x.take(0, 0);
        x.take(0, 1);
        due("ill", x.ill(0, 4), 1);
        due("awake", x.awake(0, 1), NONE);
        due("pay", x.pay(0), 2);
        due("ahead of his coming", x.take(0, 2), 3);
        due("as he comes", x.take(0, 1), 0);
        due("ill at all of them", x.ill(0, 3), 2);
        due("pay of none", x.pay(0), 0);
        due("ahead of his hour", x.take(0, 3), 3);
        due("from home", x.take(0, 0), 0);
    }

    private static void illOneAlone() {
        Checks.sentence("A COURIER is ill");
        CourierDesk x = new CourierDesk();
        x.ride(0, 5, 1, 9);
        for (int c = 0; c < 3; c++) {
            x.courier(0, 0);
            x.take(c, 0);
        }
        due("ill", x.ill(1, 0), 1);
        due("rides of 0", x.count(20), 1);
        due("rides of 1", x.count(21), 0);
        due("rides of 2", x.count(22), 1);
    }

    private static void takenOfEachPlace() {
        Checks.sentence("RIDE i that a COURIER has TAKEN; NONE.");
        for (int rides = 1; rides <= 12; rides++) {
            CourierDesk x = toAndFro(rides);
            x.courier(0, 0);
            Checks.range("taken i", 0, rides - 1, i -> i, i -> x.taken(0, i));
            due("taken of one who has none", x.taken(1, 0), NONE);
        }
        CourierDesk y = toAndFro(12);
        Checks.range("taken courier", 0, 0, 0, c -> y.taken(c, 0));
    }

    private static void awakeOfEachPlace() {
        Checks.sentence("HOURS that a COURIER is awake as that RIDE comes; NONE.");
        for (int rides = 1; rides <= 12; rides++) {
            CourierDesk x = toAndFro(rides);
            x.courier(0, 0);
            Checks.range("awake i", 0, rides - 1, 1, i -> x.awake(0, i));
            due("awake of one who has none", x.awake(1, 0), NONE);
        }
        CourierDesk y = toAndFro(12);
        Checks.range("awake courier", 0, 0, 1, c -> y.awake(c, 0));
    }

    private static void payWithoutHim() {
        Checks.sentence("PAY of a COURIER; NONE without him.");
        due("pay of none", new CourierDesk().pay(0), NONE);
        for (int couriers = 1; couriers <= 6; couriers++) {
            CourierDesk x = new CourierDesk();
            for (int c = 0; c < couriers; c++) {
                x.courier(0, 0);
            }
            Checks.range("pay of " + couriers, 0, couriers - 1, 0, x::pay);
        }
    }

    private static void payOnRides() {
        Checks.sentence("pay for each HOUR on RIDES");
        for (int pay = 0; pay <= 99; pay++) {
            CourierDesk x = new CourierDesk();
            Checks.rules(x, "pay " + pay);
            x.courier(0, 0);
            x.ride(0, 50, 1, 57);
            x.ride(1, 60, 0, 61);
            due("pay without a ride", x.pay(0), 0);
            x.take(0, 0);
            due("pay " + pay + " for 7 hours, none ahead of them", x.pay(0), 7 * pay);
            x.take(0, 1);
            due("pay " + pay + " for 8 hours, none between them", x.pay(0), 8 * pay);
        }
    }

    private static void payBetween() {
        Checks.sentence("wait for each HOUR between two of them");
        for (int wait = 0; wait <= 99; wait++) {
            CourierDesk x = new CourierDesk();
            Checks.rules(x, "pay 0;wait " + wait);
            x.courier(0, 0);
            x.ride(0, 50, 1, 57);
            x.ride(1, 57, 0, 61);
            x.ride(0, 64, 1, 65);
            x.ride(1, 100, 0, 101);
            due("wait without a ride", x.pay(0), 0);
            x.take(0, 0);
            due("wait with one ride", x.pay(0), 0);
            x.take(0, 1);
            due("wait for no hour between", x.pay(0), 0);
            x.take(0, 2);
            due("wait " + wait + " for 3 hours", x.pay(0), 3 * wait);
            x.take(0, 3);
            due("wait " + wait + " for a rest, too", x.pay(0), 38 * wait);
        }
    }

    private static void payEnds() {
        Checks.sentence("pay for each HOUR on RIDES, wait for each HOUR between two of them");
        CourierDesk x = new CourierDesk();
        Checks.rules(x, "wake 99;rest 1;pay 99;wait 99");
        x.courier(0, 0);
        int hour = 0;
        for (int i = 0; i < 12; i++) {
            int comes = i < 11 ? hour + 82 : 999;
            due("take", x.take(0, x.ride(i % 2, hour, 1 - i % 2, comes)), 0);
            hour = comes + 1;
        }
        due("pay of all hours", x.pay(0), 999 * 99);
        Checks.rules(x, "pay 0;wait 99");
        due("pay of all hours between", x.pay(0), 11 * 99);
        Checks.rules(x, "pay 0;wait 0");
        due("pay of nothing", x.pay(0), 0);
        Checks.rules(x, "");
        due("pay without rules", x.pay(0), 988);
    }
}
