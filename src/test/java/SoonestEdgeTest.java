/** The edges of soonest, everywhere and count: a test for each sentence that names one. */
public final class SoonestEdgeTest {
    private static final int NONE = CourierDesk.NONE;
    private static final int LEAST = Integer.MIN_VALUE;
    private static final int MOST = Integer.MAX_VALUE;

    private SoonestEdgeTest() {
    }

    private static void due(String call, long got, long want) {
        Checks.due(call, got, want);
    }

    public static void main(String[] args) {
        soonestTowns();
        soonestHours();
        soonestTheSame();
        soonestNever();
        inATownFromAnHourOn();
        nextRideNotAhead();
        leastHour();
        ridesThatGo();
        ridesThatNobodyTook();
        freshAsHeLeavesFirst();
        wakeAtMost();
        wakeOverTwoRides();
        restHoursOrMore();
        laterFreshIsBetter();
        restInsteadOfTheSooner();
        twelveAtMost();
        ridesToldInAnyOrder();
        fullTimetable();
        endsOfTime();
        soonestChangesNothing();
        everywhereSets();
        everywhereEachTown();
        everywhereLatest();
        everywhereOneNever();
        everywhereTownsAndHours();
        countEachWhat();
        countRidesTaken();
        countOthers();
        Checks.close("SoonestEdgeTest");
    }

    private static void soonestTowns() {
        Checks.sentence("TOWNS 0 to 7");
        Checks.range("soonest from", 0, 7, 5, t -> new CourierDesk().soonest(t, 5, t));
        Checks.range("soonest from another", 0, 7, 9, t -> {
            CourierDesk x = new CourierDesk();
            x.ride(t, 5, 3, 9);
            return t == 3 ? 9 : x.soonest(t, 5, 3);
        });
        Checks.range("soonest to another", 0, 7, 9, t -> {
            CourierDesk x = new CourierDesk();
            x.ride(3, 5, t, 9);
            return t == 3 ? 9 : x.soonest(3, 5, t);
        });
    }

    private static void soonestHours() {
        Checks.sentence("HOURS 0 to 999");
        Checks.range("soonest hour", 0, 999, h -> h, h -> new CourierDesk().soonest(3, h, 3));
        CourierDesk x = new CourierDesk();
        x.ride(0, 5, 1, 9);
        int[] wrong = {-1, 1000, LEAST, MOST, -1000};
        for (int hour : wrong) {
            due("soonest from " + hour + " on", x.soonest(0, hour, 1), NONE);
        }
        due("soonest from 0 on", x.soonest(0, 0, 1), 9);
    }

    private static void soonestTheSame() {
        Checks.sentence("(the same one: that HOUR)");
        CourierDesk x = new CourierDesk();
        x.ride(0, 5, 1, 6);
        x.ride(1, 6, 0, 7);
        x.shut(0, 0, 999);
        for (int town = 0; town <= 7; town++) {
            due("soonest where he is, at 0", x.soonest(town, 0, town), 0);
            due("soonest where he is, at 500", x.soonest(town, 500, town), 500);
            due("soonest where he is, at 999", x.soonest(town, 999, town), 999);
        }
    }

    private static void soonestNever() {
        Checks.sentence("NONE: never, or without these.");
        CourierDesk x = new CourierDesk();
        due("no ride", x.soonest(0, 0, 1), NONE);
        x.ride(1, 5, 0, 9);
        due("a ride the other way", x.soonest(0, 0, 1), NONE);
        x.ride(0, 5, 2, 9);
        due("a ride elsewhere", x.soonest(0, 0, 1), NONE);
        x.ride(0, 5, 1, 30);
        due("a ride that nobody could be awake for", x.soonest(0, 0, 1), NONE);
        x.ride(0, 5, 1, 29);
        due("a ride", x.soonest(0, 0, 1), 29);
        due("a ride that left", x.soonest(0, 6, 1), NONE);
    }

    private static void inATownFromAnHourOn() {
        Checks.sentence("somebody FRESH who is in a TOWN from an HOUR on");
        CourierDesk x = new CourierDesk();
        x.ride(0, 10, 1, 15);
        for (int hour = 0; hour <= 20; hour++) {
            due("from " + hour + " on, ride at 10", x.soonest(0, hour, 1), hour <= 10 ? 15 : NONE);
        }
    }

    private static void nextRideNotAhead() {
        Checks.sentence("by any RIDES that go, TAKEN as in II");
        for (int leaves = 10; leaves <= 20; leaves++) {
            CourierDesk x = new CourierDesk();
            x.ride(0, 10, 1, 15);
            x.ride(1, leaves, 2, 22);
            due("comes at 15, next ride at " + leaves, x.soonest(0, 10, 2), leaves >= 15 ? 22 : NONE);
        }
    }

    private static void leastHour() {
        Checks.sentence("the least HOUR at which he can be in another one");
        CourierDesk x = new CourierDesk();
        x.ride(0, 10, 3, 24);
        due("one ride", x.soonest(0, 0, 3), 24);
        x.ride(0, 10, 1, 14);
        x.ride(1, 14, 3, 25);
        due("two rides that come later", x.soonest(0, 0, 3), 24);
        x.ride(1, 14, 3, 23);
        due("two rides that come an hour sooner", x.soonest(0, 0, 3), 23);
        x.ride(0, 20, 3, 22);
        due("a ride that leaves later and comes sooner", x.soonest(0, 0, 3), 22);
    }

    private static void ridesThatGo() {
        Checks.sentence("by any RIDES that go");
        CourierDesk x = new CourierDesk();
        x.ride(0, 10, 1, 14);
        x.ride(0, 10, 1, 15);
        due("soonest", x.soonest(0, 0, 1), 14);
        x.shut(1, 14, 14);
        due("shut where the first comes", x.soonest(0, 0, 1), 15);
        x.shut(0, 10, 10);
        due("shut where both leave", x.soonest(0, 0, 1), NONE);
    }

    private static void ridesThatNobodyTook() {
        Checks.sentence("by any RIDES that go");
        CourierDesk x = new CourierDesk();
        x.ride(0, 10, 1, 14);
        due("without couriers", x.soonest(0, 0, 1), 14);
        x.courier(0, 0);
        x.take(0, 0);
        due("taken by a courier", x.soonest(0, 0, 1), 14);
        x.ill(0, 0);
        due("taken no more", x.soonest(0, 0, 1), 14);
    }

    private static void freshAsHeLeavesFirst() {
        Checks.sentence("(FRESH as he leaves first)");
        CourierDesk x = new CourierDesk();
        x.ride(0, 100, 1, 124);
        int[] hours = {0, 50, 92, 93, 99, 100};
        for (int hour : hours) {
            due("24 hours, there from " + hour + " on", x.soonest(0, hour, 1), 124);
        }
    }

    private static void wakeAtMost() {
        Checks.sentence("5 he would be awake, as it comes, for more than wake HOURS");
        for (int wake = 1; wake <= 99; wake++) {
            CourierDesk x = new CourierDesk();
            Checks.rules(x, "wake " + wake);
            x.ride(0, 10, 1, 10 + wake);
            x.ride(0, 10, 2, 11 + wake);
            due("hours " + wake + " of " + wake, x.soonest(0, 0, 1), 10 + wake);
            due("an hour more", x.soonest(0, 0, 2), NONE);
        }
    }

    private static void wakeOverTwoRides() {
        Checks.sentence("else he is awake since he was FRESH last");
        for (int comes = 30; comes <= 40; comes++) {
            CourierDesk x = new CourierDesk();
            x.ride(0, 10, 1, 20);
            x.ride(1, 27, 2, comes);
            due("awake from 10 to " + comes, x.soonest(0, 0, 2), comes <= 34 ? comes : NONE);
        }
        CourierDesk y = new CourierDesk();
        for (int i = 0; i < 6; i++) {
            y.ride(i, 4 * i, i + 1, 4 * i + 4);
        }
        y.ride(6, 24, 7, 25);
        due("six rides of 24 hours", y.soonest(0, 0, 6), 24);
        due("a seventh of an hour", y.soonest(0, 0, 7), NONE);
        due("the same without the first", y.soonest(1, 0, 7), 25);
    }

    private static void restHoursOrMore() {
        Checks.sentence("if he was in that TOWN for rest HOURS or more");
        for (int rest = 1; rest <= 24; rest++) {
            for (int waits = 0; waits <= 25; waits++) {
                CourierDesk x = new CourierDesk();
                Checks.rules(x, "wake 10;rest " + rest);
                x.ride(0, 0, 1, 10);
                x.ride(1, 10 + waits, 2, 20 + waits);
                int want = waits >= rest ? 20 + waits : NONE;
                due("rest " + rest + ", in town " + waits, x.soonest(0, 0, 2), want);
            }
        }
    }

    private static void laterFreshIsBetter() {
        Checks.sentence("the least HOUR at which he can be in another one, by any RIDES");
        // He comes to 1 soonest by the ride at 0, but then he is awake too long for the next one.
        CourierDesk x = new CourierDesk();
        x.ride(0, 0, 1, 10);
        x.ride(0, 3, 1, 13);
        x.ride(1, 13, 2, 27);
        due("by the later ride", x.soonest(0, 0, 2), 27);
        due("to the town between", x.soonest(0, 0, 1), 10);
        CourierDesk y = new CourierDesk();
        y.ride(0, 0, 1, 10);
        y.ride(0, 2, 1, 13);
        y.ride(1, 13, 2, 27);
        due("an hour too early", y.soonest(0, 0, 2), NONE);
    }

    private static void restInsteadOfTheSooner() {
        Checks.sentence("somebody FRESH who is in a TOWN from an HOUR on: the least HOUR");
        CourierDesk x = new CourierDesk();
        x.ride(0, 0, 1, 10);
        x.ride(1, 10, 2, 12);
        x.ride(1, 18, 2, 20);
        x.ride(2, 20, 3, 40);
        due("fresh from 18 on", x.soonest(0, 0, 3), 40);
        due("the town between at its soonest", x.soonest(0, 0, 2), 12);
        x.ride(2, 12, 3, 24);
        due("awake from 0 on", x.soonest(0, 0, 3), 24);
    }

    private static void twelveAtMost() {
        Checks.sentence("12 at most");
        // Seven rides lead through all towns; no way needs more, as staying in a town is as good as coming back.
        CourierDesk x = new CourierDesk();
        for (int i = 0; i < 7; i++) {
            x.ride(i, 20 * i, i + 1, 20 * i + 10);
        }
        for (int town = 1; town <= 7; town++) {
            due("by " + town + " rides", x.soonest(0, 0, town), 20 * town - 10);
        }
        CourierDesk y = new CourierDesk();
        for (int i = 0; i < 20; i++) {
            y.ride(i % 2, 20 * i, 1 - i % 2, 20 * i + 10);
        }
        y.ride(0, 500, 2, 510);
        due("to and fro twenty times, or staying", y.soonest(0, 0, 2), 510);
        due("to and fro, from the other town", y.soonest(1, 0, 2), 510);
    }

    private static void ridesToldInAnyOrder() {
        Checks.sentence("by any RIDES that go");
        for (int order = 0; order < 256; order++) {
            int[] told = {order & 3, order >> 2 & 3, order >> 4 & 3, order >> 6 & 3};
            CourierDesk x = new CourierDesk();
            int rides = 0;
            for (int ride : told) {
                x.ride(ride, 5 * ride, ride + 1, 5 * ride + 5);
                rides |= 1 << ride;
            }
            due("four rides, told as " + order, x.soonest(0, 0, 4), rides == 15 ? 20 : NONE);
        }
    }

    private static void fullTimetable() {
        Checks.sentence("by any RIDES that go");
        CourierDesk x = new CourierDesk();
        for (int i = 0; i < 59; i++) {
            x.ride(0, 900 - i, 1, 901 - i);
        }
        x.ride(1, 902, 2, 903);
        due("the soonest of 59", x.soonest(0, 0, 1), 843);
        due("behind it by the 60th", x.soonest(0, 0, 2), 903);
        due("the last of 59", x.soonest(0, 900, 1), 901);
        due("behind all of them", x.soonest(0, 901, 1), NONE);
    }

    private static void endsOfTime() {
        Checks.sentence("HOURS 0 to 999");
        CourierDesk x = new CourierDesk();
        x.ride(0, 998, 1, 999);
        x.ride(2, 0, 3, 1);
        due("at the last hour", x.soonest(0, 998, 1), 999);
        due("behind it", x.soonest(0, 999, 1), NONE);
        due("at the first hour", x.soonest(2, 0, 3), 1);
        due("everywhere at the last hour", x.everywhere(0, 998, 3), 999);
        due("everywhere behind it", x.everywhere(0, 999, 3), NONE);
        due("everywhere, where he is", x.everywhere(0, 999, 1), 999);
    }

    private static void soonestChangesNothing() {
        Checks.sentence("SOONEST from a TOWN and HOUR to a TOWN");
        CourierDesk x = new CourierDesk();
        x.ride(0, 10, 1, 14);
        x.ride(1, 14, 2, 18);
        x.ride(3, 10, 2, 16);
        for (int times = 0; times < 3; times++) {
            due("from 0", x.soonest(0, 10, 2), 18);
            due("from 3", x.soonest(3, 10, 2), 16);
            due("from 0, too late", x.soonest(0, 11, 2), NONE);
            due("from 3 to 1", x.soonest(3, 10, 1), NONE);
            due("from 3, everywhere", x.everywhere(3, 10, 4 + 8), 16);
        }
    }

    private static void everywhereSets() {
        Checks.sentence("(TOWN t is bit t; 1 to 255)");
        CourierDesk x = new CourierDesk();
        for (int town = 1; town <= 7; town++) {
            x.ride(0, 10, town, 10 + town);
        }
        Checks.range("everywhere set", 1, 255, set -> set == 1 ? 5 : 10 + 31 - Integer.numberOfLeadingZeros(set),
            set -> x.everywhere(0, 5, set));
        int[] wrong = {0, -1, -256, 256, 257, 511, 1 << 16, 1 << 31, 1 + (1 << 30)};
        for (int set : wrong) {
            due("everywhere " + set, x.everywhere(0, 5, set), NONE);
        }
    }

    private static void everywhereEachTown() {
        Checks.sentence("TOWN t is bit t");
        for (int town = 0; town <= 7; town++) {
            CourierDesk x = new CourierDesk();
            int other = (town + 1) % 8;
            x.ride(other, 10, town, 20);
            for (int bit = 0; bit <= 7; bit++) {
                int want = bit == town ? 20 : bit == other ? 5 : NONE;
                due("town " + bit + ", ride to " + town, x.everywhere(other, 5, 1 << bit), want);
            }
        }
    }

    private static void everywhereLatest() {
        Checks.sentence("the latest SOONEST of these");
        CourierDesk x = new CourierDesk();
        x.ride(0, 10, 1, 30);
        x.ride(0, 10, 1, 20);
        x.ride(0, 10, 2, 15);
        due("his own town", x.everywhere(0, 7, 1), 7);
        due("his own and a sooner one", x.everywhere(0, 7, 1 + 4), 15);
        due("the later one's soonest", x.everywhere(0, 7, 2 + 4), 20);
        due("all three", x.everywhere(0, 7, 7), 20);
        due("though they can't be seen by one", x.soonest(1, 20, 2), NONE);
    }

    private static void everywhereOneNever() {
        Checks.sentence("NONE: one never, or for others.");
        for (int never = 1; never <= 7; never++) {
            CourierDesk x = new CourierDesk();
            for (int town = 1; town <= 7; town++) {
                if (town != never) {
                    x.ride(0, 10, town, 20);
                }
            }
            due("all, but never " + never, x.everywhere(0, 5, 255), NONE);
            due("that one alone", x.everywhere(0, 5, 1 << never), NONE);
            due("all the others", x.everywhere(0, 5, 255 - (1 << never)), 20);
        }
    }

    private static void everywhereTownsAndHours() {
        Checks.sentence("from a TOWN and HOUR");
        Checks.range("everywhere town", 0, 7, 5, t -> new CourierDesk().everywhere(t, 5, t >= 0 && t <= 7 ? 1 << t : 1));
        Checks.range("everywhere hour", 0, 999, h -> h, h -> new CourierDesk().everywhere(3, h, 8));
        due("all wrong", new CourierDesk().everywhere(LEAST, MOST, 0), NONE);
    }

    /** An object whose counts are all different. */
    private static CourierDesk counted() {
        CourierDesk x = new CourierDesk();
        Checks.rules(x, "wake 31;rest 12;carry 33;pay 34;wait 35");
        for (int i = 0; i < 7; i++) {
            x.ride(i % 2, 50 * i, 1 - i % 2, 50 * i + 1);
        }
        for (int c = 0; c < 4; c++) {
            x.courier(0, 0);
            for (int i = 0; i < c; i++) {
                due("take", x.take(c, i), 0);
            }
        }
        for (int i = 0; i < 9; i++) {
            x.shut(6, 10, 20);
        }
        for (int i = 0; i < 5; i++) {
            x.bag(0, 0, 1, 1, 0, 0);
        }
        Checks.write(x, "            8");
        return x;
    }

    private static void countEachWhat() {
        Checks.sentence("What 0: RIDES, 1: COURIERS, 2: BAGS, 3: spells, 4: bytes of the TAPE, 10 to 14: wake, rest, carry,"
            + " pay, wait");
        CourierDesk x = counted();
        int[] want = {7, 4, 5, 9, 13};
        for (int what = 0; what <= 4; what++) {
            due("count(" + what + ")", x.count(what), want[what]);
        }
        Checks.inForce(x, "counted", 31, 12, 33, 34, 35);
    }

    private static void countRidesTaken() {
        Checks.sentence("20 + c: RIDES that a COURIER has TAKEN");
        CourierDesk x = counted();
        for (int c = 0; c < 4; c++) {
            due("count(20 + " + c + ")", x.count(20 + c), c);
        }
        x.courier(0, 0);
        x.courier(0, 0);
        due("count(24), none taken", x.count(24), 0);
        due("count(25), none taken", x.count(25), 0);
        due("count(26)", x.count(26), NONE);
        x.ill(3, 60);
        due("count(23), some taken no more", x.count(23), 2);
    }

    private static void countOthers() {
        Checks.sentence("NONE for others.");
        CourierDesk x = counted();
        for (int what = -100; what <= 300; what++) {
            boolean told = what >= 0 && what <= 4 || what >= 10 && what <= 14 || what >= 20 && what <= 23;
            if (!told) {
                due("count(" + what + ")", x.count(what), NONE);
            }
        }
        int[] wild = {LEAST, LEAST + 5, LEAST + 10, LEAST + 14, LEAST + 20, MOST, MOST - 5, 256, 65536 + 10, 1000};
        for (int what : wild) {
            due("count(" + what + ")", x.count(what), NONE);
        }
    }
}
