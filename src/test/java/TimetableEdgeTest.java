/** The edges of a new object, of rides and of spells: a test for each sentence that names one. */
public final class TimetableEdgeTest {
    private static final int NONE = CourierDesk.NONE;
    private static final int LEAST = Integer.MIN_VALUE;
    private static final int MOST = Integer.MAX_VALUE;

    private TimetableEdgeTest() {
    }

    private static void due(String call, long got, long want) {
        Checks.due(call, got, want);
    }

    public static void main(String[] args) {
        newObjectHasNothing();
        newObjectAnswersNothing();
        newObjectsAreApart();
        lastCallOfAnObject();
        rideTowns();
        rideHours();
        rideToAnotherTown();
        rideLater();
        rideTooLong();
        rideHoursThatWrap();
        rideNumbers();
        rideSixty();
        shutTowns();
        shutHours();
        shutBackwards();
        shutTwenty();
        shutTwentyOfAll();
        spellHoursOfLeaving();
        spellHoursOfComing();
        spellsAtTheEndsOfTime();
        spellsOfOtherHours();
        spellsOfOtherTowns();
        firstAndLastSpell();
        refusedSpellShutsNothing();
        spellAheadOfTheRide();
        Checks.close("TimetableEdgeTest");
    }

    private static void newObjectHasNothing() {
        Checks.sentence("No RIDES, no COURIERS, no BAGS.");
        CourierDesk x = new CourierDesk();
        for (int what = 0; what <= 4; what++) {
            due("count(" + what + ")", x.count(what), 0);
        }
        for (int courier = 0; courier <= 6; courier++) {
            due("count(20 + " + courier + ")", x.count(20 + courier), NONE);
        }
        Checks.inForce(x, "of a new object", 24, 8, 20, 1, 0);
    }

    private static void newObjectAnswersNothing() {
        Checks.sentence("No RIDES, no COURIERS, no BAGS.");
        CourierDesk x = new CourierDesk();
        due("take", x.take(0, 0), 1);
        due("ill", x.ill(0, 0), NONE);
        due("taken", x.taken(0, 0), NONE);
        due("awake", x.awake(0, 0), NONE);
        due("pay", x.pay(0), NONE);
        due("layOut", x.layOut(), 0);
        due("laid", x.laid(0, 2), NONE);
        due("leg", x.leg(0, 0, 0), NONE);
        due("hand", x.hand(0, 0), NONE);
        due("seal", x.seal(0, 0, 0), NONE);
        due("load", x.load(0, 0), NONE);
        due("end(0)", x.end(0), 0);
        due("end(1)", x.end(1), NONE);
        for (int to = 0; to <= 7; to++) {
            due("soonest", x.soonest(3, 5, to), to == 3 ? 5 : NONE);
            due("everywhere", x.everywhere(3, 5, 1 << to), to == 3 ? 5 : NONE);
        }
        due("ride", x.ride(0, 0, 1, 1), 0);
        due("shut", x.shut(0, 0, 0), 1);
        due("courier", x.courier(0, 0), 0);
        due("bag", x.bag(0, 0, 1, 1, 0, 0), 0);
    }

    private static void newObjectsAreApart() {
        Checks.sentence("No RIDES, no COURIERS, no BAGS.");
        CourierDesk used = new CourierDesk();
        Checks.single(used, 0, 5, 1, 9);
        used.bag(0, 0, 1, 1, 0, 0);
        used.layOut();
        used.shut(0, 5, 5);
        Checks.rules(used, "wake 1;rest 2;carry 3;pay 4;wait 5");
        used.feed(0, 0, 0, 0, 0);
        CourierDesk x = new CourierDesk();
        for (int what = 0; what <= 4; what++) {
            due("count(" + what + ") beside a used one", x.count(what), 0);
        }
        Checks.inForce(x, "beside a used one", 24, 8, 20, 1, 0);
        Checks.single(x, 0, 5, 1, 9);
        due("load beside a used one", x.load(0, 0), 0);
    }

    private static void lastCallOfAnObject() {
        Checks.sentence("An object is used for at most 512 calls after it has been made");
        CourierDesk x = new CourierDesk();
        x.ride(0, 5, 1, 9);
        x.courier(0, 0);
        due("take", x.take(0, 0), 0);
        x.bag(0, 0, 1, 1, 0, 0);
        for (int calls = 4; calls < 508; calls += 3) {
            due("layOut", x.layOut(), 0);
            due("soonest", x.soonest(0, 0, 1), 9);
            due("end", x.end(1), NONE);
        }
        due("call 509", x.ill(0, 5), 1);
        due("call 510", x.layOut(), 1);
        due("call 511", x.take(0, 0), 0);
        due("call 512", x.layOut(), 0);
    }

    private static void rideTowns() {
        Checks.sentence("TOWNS 0 to 7");
        Checks.range("ride from", 0, 7, 0, t -> new CourierDesk().ride(t, 5, t == 3 ? 4 : 3, 9));
        Checks.range("ride to", 0, 7, 0, t -> new CourierDesk().ride(t == 3 ? 4 : 3, 5, t, 9));
    }

    private static void rideHours() {
        Checks.sentence("HOURS 0 to 999");
        Checks.range("ride leaves", 0, 998, 0, h -> new CourierDesk().ride(0, h, 1, h + 1));
        Checks.range("ride comes", 1, 999, 0, h -> new CourierDesk().ride(0, h - 1, 1, h));
    }

    private static void rideToAnotherTown() {
        Checks.sentence("to another one");
        for (int from = 0; from <= 7; from++) {
            for (int to = 0; to <= 7; to++) {
                due("ride " + from + " to " + to, new CourierDesk().ride(from, 5, to, 9), from == to ? NONE : 0);
            }
        }
    }

    private static void rideLater() {
        Checks.sentence("at a later HOUR");
        for (int comes = 0; comes <= 500; comes++) {
            due("ride at 500 that comes at " + comes, new CourierDesk().ride(0, 500, 1, comes), NONE);
        }
        due("ride an hour later", new CourierDesk().ride(0, 500, 1, 501), 0);
        due("ride at 0 that comes at 0", new CourierDesk().ride(0, 0, 1, 0), NONE);
        due("ride at 0 that comes at 1", new CourierDesk().ride(0, 0, 1, 1), 0);
        due("ride at 998 that comes at 999", new CourierDesk().ride(0, 998, 1, 999), 0);
        due("ride at 999 that comes at 999", new CourierDesk().ride(0, 999, 1, 999), NONE);
    }

    private static void rideTooLong() {
        Checks.sentence("(at most 99 later)");
        for (int comes = 501; comes <= 999; comes++) {
            due("ride at 500 that comes at " + comes, new CourierDesk().ride(0, 500, 1, comes), comes <= 599 ? 0 : NONE);
        }
        due("ride of 99 from 0 on", new CourierDesk().ride(0, 0, 1, 99), 0);
        due("ride of 100 from 0 on", new CourierDesk().ride(0, 0, 1, 100), NONE);
        due("ride of 99 up to 999", new CourierDesk().ride(0, 900, 1, 999), 0);
        due("ride of 100 up to 999", new CourierDesk().ride(0, 899, 1, 999), NONE);
    }

    private static void rideHoursThatWrap() {
        Checks.sentence("from a TOWN at an HOUR to another one at a later HOUR");
        // The difference of these is 1 to 99 by int's wrap-around, or it is below 0.
        due("ride from most to least", new CourierDesk().ride(0, MOST, 1, LEAST), NONE);
        due("ride from most to least + 98", new CourierDesk().ride(0, MOST, 1, LEAST + 98), NONE);
        due("ride from least to most", new CourierDesk().ride(0, LEAST, 1, MOST), NONE);
        due("ride from least to least + 1", new CourierDesk().ride(0, LEAST, 1, LEAST + 1), NONE);
        due("ride from most - 1 to most", new CourierDesk().ride(0, MOST - 1, 1, MOST), NONE);
        due("ride from -5 to 5", new CourierDesk().ride(0, -5, 1, 5), NONE);
        due("ride from 995 to 1005", new CourierDesk().ride(0, 995, 1, 1005), NONE);
        due("ride from 0 to least", new CourierDesk().ride(0, 0, 1, LEAST), NONE);
        due("ride from 999 to most", new CourierDesk().ride(0, 999, 1, MOST), NONE);
    }

    private static void rideNumbers() {
        Checks.sentence("A RIDE: its number");
        CourierDesk x = new CourierDesk();
        for (int i = 0; i < 60; i++) {
            due("refused ahead of ride " + i, x.ride(i % 8, 5, i % 8, 9), NONE);
            due("ride " + i, x.ride(i % 8, i, (i + 1) % 8, i + 1), i);
            due("rides", x.count(0), i + 1);
        }
    }

    private static void rideSixty() {
        Checks.sentence("NONE: there are 60, or something is not as told.");
        CourierDesk x = new CourierDesk();
        for (int i = 0; i < 59; i++) {
            x.ride(0, 1, 1, 2);
        }
        due("ride the 60th", x.ride(2, 3, 4, 5), 59);
        due("ride the 61st", x.ride(5, 6, 6, 7), NONE);
        due("ride the 61st again", x.ride(0, 1, 1, 2), NONE);
        due("rides", x.count(0), 60);
        due("soonest by the 60th", x.soonest(2, 3, 4), 5);
        due("soonest by the 61st", x.soonest(5, 6, 6), NONE);
        x.courier(2, 0);
        due("take of ride 60", x.take(0, 60), 1);
        due("take of ride 59", x.take(0, 59), 0);
        due("taken", x.taken(0, 0), 59);
    }

    private static void shutTowns() {
        Checks.sentence("TOWNS 0 to 7");
        Checks.range("shut town", 0, 7, 1, t -> new CourierDesk().shut(t, 5, 6));
    }

    private static void shutHours() {
        Checks.sentence("HOURS 0 to 999");
        Checks.range("shut from", 0, 999, 1, h -> new CourierDesk().shut(0, h, 999));
        Checks.range("shut from and to", 0, 999, 1, h -> new CourierDesk().shut(0, h, h));
        Checks.range("shut to", 0, 999, 1, h -> new CourierDesk().shut(0, 0, h));
    }

    private static void shutBackwards() {
        Checks.sentence("from an HOUR to an HOUR");
        for (int to = 0; to <= 999; to++) {
            due("shut from 500 to " + to, new CourierDesk().shut(3, 500, to), to < 500 ? NONE : 1);
        }
        due("shut from 999 to 0", new CourierDesk().shut(3, 999, 0), NONE);
        due("shut from 0 to 999", new CourierDesk().shut(3, 0, 999), 1);
    }

    private static void shutTwenty() {
        Checks.sentence("how many spells; NONE: 20, or something is not as told.");
        CourierDesk x = new CourierDesk();
        for (int i = 1; i <= 20; i++) {
            due("refused ahead of spell " + i, x.shut(8, 5, 6), NONE);
            due("shut " + i, x.shut(1, 5, 6), i);
            due("spells", x.count(3), i);
        }
        due("shut the 21st", x.shut(1, 5, 6), NONE);
        due("shut the 21st again", x.shut(1, 5, 6), NONE);
        due("spells", x.count(3), 20);
    }

    private static void shutTwentyOfAll() {
        Checks.sentence("(20 at most of all)");
        CourierDesk x = new CourierDesk();
        for (int i = 1; i <= 20; i++) {
            due("shut " + i, x.shut(i % 8, 10 * i, 10 * i + 5), i);
        }
        for (int town = 0; town <= 7; town++) {
            due("shut the 21st, town " + town, x.shut(town, 500, 501), NONE);
        }
    }

    /** What a courier hears who would take the only ride. */
    private static int heard(CourierDesk desk, int town) {
        return desk.take(desk.courier(town, 0), 0);
    }

    private static int leavingShutTown(int hour, int first, int last) {
        CourierDesk x = new CourierDesk();
        x.ride(0, hour, 1, hour + 20);
        x.shut(0, first, last);
        return heard(x, 0);
    }

    private static int comingToShutTown(int hour, int first, int last) {
        CourierDesk x = new CourierDesk();
        x.ride(1, hour - 20, 0, hour);
        x.shut(0, first, last);
        return heard(x, 1);
    }

    private static void spellHoursOfLeaving() {
        Checks.sentence("a RIDE goes unless the TOWN it leaves is SHUT at the HOUR it leaves");
        for (int hour = 40; hour <= 60; hour++) {
            int want = hour >= 48 && hour <= 52 ? 4 : 0;
            due("leaves at " + hour + ", shut from 48 to 52", leavingShutTown(hour, 48, 52), want);
            due("leaves at " + hour + ", shut at 50", leavingShutTown(hour, 50, 50), hour == 50 ? 4 : 0);
        }
    }

    private static void spellHoursOfComing() {
        Checks.sentence("or that it comes to at the HOUR it comes");
        for (int hour = 40; hour <= 60; hour++) {
            int want = hour >= 48 && hour <= 52 ? 4 : 0;
            due("comes at " + hour + ", shut from 48 to 52", comingToShutTown(hour, 48, 52), want);
            due("comes at " + hour + ", shut at 50", comingToShutTown(hour, 50, 50), hour == 50 ? 4 : 0);
        }
    }

    private static void spellsAtTheEndsOfTime() {
        Checks.sentence("A TOWN is SHUT in spells (20 at most of all), from an HOUR to an HOUR");
        due("leaves at 0, shut at 0", leavingShutTown(0, 0, 0), 4);
        due("leaves at 1, shut at 0", leavingShutTown(1, 0, 0), 0);
        due("comes at 999, shut at 999", comingToShutTown(999, 999, 999), 4);
        due("comes at 998, shut at 999", comingToShutTown(998, 999, 999), 0);
        due("leaves at 0, shut always", leavingShutTown(0, 0, 999), 4);
        due("leaves at 979, shut always", leavingShutTown(979, 0, 999), 4);
        due("comes at 999, shut always", comingToShutTown(999, 0, 999), 4);
        due("comes at 20, shut always", comingToShutTown(20, 0, 999), 4);
    }

    private static void spellsOfOtherHours() {
        Checks.sentence("a RIDE goes unless the TOWN it leaves is SHUT at the HOUR it leaves, or that it comes to at the"
            + " HOUR it comes");
        CourierDesk x = new CourierDesk();
        x.ride(0, 10, 1, 20);
        x.shut(0, 0, 9);
        x.shut(0, 11, 999);
        x.shut(1, 0, 19);
        x.shut(1, 21, 999);
        due("take with all other hours shut", heard(x, 0), 0);
        due("soonest", x.soonest(0, 10, 1), 20);
        due("layOut", x.bag(0, 0, 1, 1, 0, 0) + x.layOut(), 0);
    }

    private static void spellsOfOtherTowns() {
        Checks.sentence("A TOWN is SHUT");
        CourierDesk x = new CourierDesk();
        x.ride(0, 10, 1, 20);
        for (int town = 2; town <= 7; town++) {
            x.shut(town, 0, 999);
        }
        due("take with all other towns shut", heard(x, 0), 0);
        due("soonest", x.soonest(0, 10, 1), 20);
    }

    private static void firstAndLastSpell() {
        Checks.sentence("A TOWN is SHUT: how many spells");
        for (int which = 1; which <= 20; which++) {
            CourierDesk x = new CourierDesk();
            x.ride(0, 10, 1, 20);
            for (int i = 1; i <= 20; i++) {
                due("shut", x.shut(i == which ? 0 : 7, 10, 10), i);
            }
            due("take, shut by spell " + which, heard(x, 0), 4);
            due("soonest, shut by spell " + which, x.soonest(0, 0, 1), NONE);
        }
    }

    private static void refusedSpellShutsNothing() {
        Checks.sentence("NONE: 20, or something is not as told.");
        CourierDesk x = new CourierDesk();
        x.ride(0, 10, 1, 20);
        due("shut backwards", x.shut(0, 10, 9), NONE);
        due("shut town -1", x.shut(-1, 0, 999), NONE);
        due("shut to 1000", x.shut(0, 0, 1000), NONE);
        due("shut from -1", x.shut(0, -1, 999), NONE);
        for (int i = 1; i <= 20; i++) {
            x.shut(7, 0, 999);
        }
        due("shut the 21st", x.shut(0, 0, 999), NONE);
        due("soonest behind refused spells", x.soonest(0, 0, 1), 20);
        due("take behind refused spells", heard(x, 0), 0);
    }

    private static void spellAheadOfTheRide() {
        Checks.sentence("a RIDE goes unless");
        CourierDesk x = new CourierDesk();
        x.shut(0, 10, 10);
        x.shut(1, 21, 21);
        x.ride(0, 10, 1, 20);
        x.ride(0, 11, 1, 21);
        x.ride(0, 11, 1, 22);
        x.courier(0, 0);
        due("leaves a town that was shut before", x.take(0, 0), 4);
        due("comes to a town that was shut before", x.take(0, 1), 4);
        due("neither", x.take(0, 2), 0);
    }
}
