/** The edges of bags and of laying them out: a test for each sentence that names one. */
public final class BagEdgeTest {
    private static final int NONE = CourierDesk.NONE;
    private static final int LEAST = Integer.MIN_VALUE;
    private static final int MOST = Integer.MAX_VALUE;

    private BagEdgeTest() {
    }

    private static void due(String call, long got, long want) {
        Checks.due(call, got, want);
    }

    public static void main(String[] args) {
        bagTowns();
        bagHours();
        bagToAnotherTown();
        bagWeights();
        bagRanks();
        bagTwelve();
        layOutNone();
        layOutHowManyDoNotCome();
        ranksHighestFirst();
        ranksByNumbers();
        legsTaken();
        legsTakenNoMore();
        legsOfSixCouriersByTwelve();
        legsThatGo();
        thereFromAnHourOn();
        legNotAheadOfItsHour();
        legAheadThatComesAsSoon();
        legFromTheTownWhereItIs();
        roomOfOneBag();
        roomOfMany();
        roomOnEachLeg();
        roomAnew();
        wayThatComesSoonest();
        wayOfTheFewestLegs();
        wayFirstByItsFirstLeg();
        wayFirstByItsSecondLeg();
        wayFirstInTheOrderTaken();
        withoutAWay();
        wayEndsInItsTown();
        wayOfSevenLegs();
        laidHour();
        laidBehindDue();
        laidLegsAndSeals();
        laidWasNotThereThen();
        laidWithoutItOrForOthers();
        legOfEachPlace();
        sealOfEachPlace();
        Checks.close("BagEdgeTest");
    }

    private static void bagTowns() {
        Checks.sentence("TOWNS 0 to 7");
        Checks.range("bag from", 0, 7, 0, t -> new CourierDesk().bag(t, 5, t == 3 ? 4 : 3, 1, 0, 9));
        Checks.range("bag to", 0, 7, 0, t -> new CourierDesk().bag(t == 3 ? 4 : 3, 5, t, 1, 0, 9));
    }

    private static void bagHours() {
        Checks.sentence("HOURS 0 to 999");
        Checks.range("bag hour", 0, 999, 0, h -> new CourierDesk().bag(0, h, 1, 1, 0, 9));
        Checks.range("bag due", 0, 999, 0, h -> new CourierDesk().bag(0, 500, 1, 1, 0, h));
    }

    private static void bagToAnotherTown() {
        Checks.sentence("to another TOWN");
        for (int from = 0; from <= 7; from++) {
            for (int to = 0; to <= 7; to++) {
                due("bag " + from + " to " + to, new CourierDesk().bag(from, 5, to, 1, 0, 9), from == to ? NONE : 0);
            }
        }
    }

    private static void bagWeights() {
        Checks.sentence("weight (1 to 50)");
        Checks.range("bag weight", 1, 50, 0, w -> new CourierDesk().bag(0, 5, 1, w, 0, 9));
    }

    private static void bagRanks() {
        Checks.sentence("rank (0 to 9)");
        Checks.range("bag rank", 0, 9, 0, r -> new CourierDesk().bag(0, 5, 1, 1, r, 9));
    }

    private static void bagTwelve() {
        Checks.sentence("its number; NONE: there are 12, or something is not as told.");
        CourierDesk x = new CourierDesk();
        for (int b = 0; b < 12; b++) {
            due("refused ahead of bag " + b, x.bag(0, 0, 0, 1, 0, 0), NONE);
            due("laid ahead of bag " + b, x.laid(b, 2), NONE);
            due("bag " + b, x.bag(0, 0, 1, 1, 0, 0), b);
            due("bags", x.count(2), b + 1);
            due("laid behind bag " + b, x.laid(b, 2), 0);
        }
        due("thirteenth bag", x.bag(0, 0, 1, 1, 0, 0), NONE);
        due("thirteenth bag again", x.bag(2, 3, 4, 5, 6, 7), NONE);
        due("bags", x.count(2), 12);
        due("hand of the last", x.hand(11, 0), 100);
        due("hand behind the last", x.hand(12, 0), NONE);
    }

    private static void layOutNone() {
        Checks.sentence("All BAGS are LAID OUT: how many don't come to their TOWN.");
        CourierDesk x = new CourierDesk();
        due("layOut of nothing", x.layOut(), 0);
        Checks.single(x, 0, 5, 1, 9);
        due("layOut without bags", x.layOut(), 0);
        due("load without bags", x.load(0, 0), 0);
    }

    private static void layOutHowManyDoNotCome() {
        Checks.sentence("how many don't come to their TOWN");
        for (int come = 0; come <= 12; come++) {
            CourierDesk x = new CourierDesk();
            Checks.single(x, 0, 5, 1, 9);
            for (int b = 0; b < 12; b++) {
                x.bag(b < come ? 0 : 2, 0, 1, 1, 0, 0);
            }
            due("layOut, " + come + " come", x.layOut(), 12 - come);
            due("load", x.load(0, 0), come);
        }
    }

    private static void ranksHighestFirst() {
        Checks.sentence("BAGS by ranks, the highest first");
        for (int room = 1; room <= 10; room++) {
            CourierDesk up = new CourierDesk();
            CourierDesk down = new CourierDesk();
            Checks.rules(up, "carry " + room);
            Checks.rules(down, "carry " + room);
            Checks.single(up, 0, 5, 1, 9);
            Checks.single(down, 0, 5, 1, 9);
            for (int rank = 0; rank <= 9; rank++) {
                up.bag(0, 0, 1, 1, rank, 0);
                down.bag(0, 0, 1, 1, 9 - rank, 0);
            }
            due("layOut, ranks up", up.layOut(), 10 - room);
            due("layOut, ranks down", down.layOut(), 10 - room);
            for (int rank = 0; rank <= 9; rank++) {
                int comes = rank >= 10 - room ? 9 : NONE;
                due("rank " + rank + ", room for " + room, up.laid(rank, 0), comes);
                due("rank " + rank + ", room for " + room, down.laid(9 - rank, 0), comes);
            }
        }
    }

    private static void ranksByNumbers() {
        Checks.sentence("those of one by numbers");
        for (int rank = 0; rank <= 9; rank++) {
            for (int room = 1; room <= 12; room++) {
                CourierDesk x = new CourierDesk();
                Checks.rules(x, "carry " + room);
                Checks.single(x, 0, 5, 1, 9);
                for (int b = 0; b < 12; b++) {
                    x.bag(0, 0, 1, 1, rank, 0);
                }
                due("layOut", x.layOut(), 12 - room);
                for (int b = 0; b < 12; b++) {
                    due("bag " + b + ", room for " + room, x.laid(b, 0), b < room ? 9 : NONE);
                }
            }
        }
    }

    private static void legsTaken() {
        Checks.sentence("LEGS are the RIDES that COURIERS have TAKEN");
        CourierDesk x = new CourierDesk();
        x.bag(0, 0, 1, 1, 0, 0);
        x.ride(0, 5, 1, 9);
        due("layOut without couriers", x.layOut(), 1);
        x.courier(0, 0);
        due("layOut with one who has taken none", x.layOut(), 1);
        x.take(0, 0);
        due("layOut with a leg", x.layOut(), 0);
        x.ill(0, 5);
        due("layOut with a leg that is taken no more", x.layOut(), 1);
        x.take(0, 0);
        x.ill(0, 6);
        due("layOut, ill on the way", x.layOut(), 0);
    }

    private static void legsTakenNoMore() {
        Checks.sentence("LEGS are the RIDES that COURIERS have TAKEN");
        // All come at one hour, so the first courier who has taken his is the one who goes.
        for (int ill = 0; ill < 8; ill++) {
            CourierDesk x = new CourierDesk();
            for (int c = 0; c < 3; c++) {
                Checks.single(x, 0, 7 - c, 1, 9);
            }
            x.bag(0, 0, 1, 1, 0, 0);
            due("layOut", x.layOut(), 0);
            Checks.legs(x, 0, 0, 0);
            for (int c = 0; c < 3; c++) {
                if ((ill >> c & 1) == 1) {
                    due("ill " + c, x.ill(c, 0), 1);
                }
            }
            due("layOut without some", x.layOut(), ill == 7 ? 1 : 0);
            int first = Integer.numberOfTrailingZeros(~ill);
            due("courier, of those without " + ill, x.leg(0, 0, 0), ill == 7 ? NONE : first);
        }
    }

    private static void legsOfSixCouriersByTwelve() {
        Checks.sentence("He takes RIDES, 12 at most.");
        CourierDesk x = new CourierDesk();
        for (int i = 0; i < 12; i++) {
            x.ride(i % 2, 10 * i, 1 - i % 2, 10 * i + 1);
        }
        for (int c = 0; c < 6; c++) {
            x.courier(0, 0);
            for (int i = 0; i < 12; i++) {
                due("take", x.take(c, i), 0);
            }
            x.bag(1, 101, 0, 20, 0, 0);
        }
        x.bag(1, 101, 0, 1, 0, 0);
        x.bag(1, 111, 0, 1, 0, 0);
        due("layOut over 72 legs", x.layOut(), 2);
        for (int c = 0; c < 6; c++) {
            Checks.legs(x, c, c, 11);
            due("load of the last ride", x.load(c, 11), 20);
        }
        due("where all are full", x.laid(6, 0), NONE);
        due("where all have left", x.laid(7, 0), NONE);
    }

    private static void legsThatGo() {
        Checks.sentence("a TAKEN one that doesn't go any more takes no bags");
        CourierDesk x = new CourierDesk();
        x.courier(0, 0);
        x.ride(0, 5, 1, 9);
        x.ride(1, 9, 2, 12);
        x.take(0, 0);
        x.take(0, 1);
        x.bag(0, 0, 1, 3, 0, 0);
        x.bag(1, 0, 2, 4, 0, 0);
        x.bag(0, 0, 2, 5, 0, 0);
        due("layOut", x.layOut(), 0);
        due("load of 0", x.load(0, 0), 8);
        due("load of 1", x.load(0, 1), 9);
        x.shut(0, 5, 5);
        due("as laid out last", x.load(0, 0), 8);
        due("as laid out last", x.laid(2, 0), 12);
        due("layOut without leg 0", x.layOut(), 2);
        due("load of 0 then", x.load(0, 0), 0);
        due("load of 1 then", x.load(0, 1), 4);
        Checks.legs(x, 1, 0, 1);
        x.shut(2, 12, 12);
        due("layOut without both", x.layOut(), 3);
        due("load of 1 then", x.load(0, 1), 0);
        due("both are taken still", x.count(20), 2);
    }

    private static void thereFromAnHourOn() {
        Checks.sentence("from a TOWN, there from an HOUR on");
        for (int hour = 0; hour <= 12; hour++) {
            CourierDesk x = new CourierDesk();
            Checks.single(x, 0, 6, 1, 9);
            x.bag(0, hour, 1, 1, 0, 0);
            due("layOut, there at " + hour + ", leg at 6", x.layOut(), hour <= 6 ? 0 : 1);
        }
        CourierDesk y = new CourierDesk();
        Checks.single(y, 0, 998, 1, 999);
        y.bag(0, 998, 1, 1, 0, 0);
        y.bag(0, 999, 1, 1, 0, 0);
        due("layOut at the end of time", y.layOut(), 1);
        due("there at 998", y.laid(0, 0), 999);
        due("there at 999", y.laid(1, 0), NONE);
    }

    private static void legNotAheadOfItsHour() {
        Checks.sentence("not ahead of the HOUR at which it is there");
        for (int leaves = 1; leaves <= 15; leaves++) {
            CourierDesk x = new CourierDesk();
            Checks.single(x, 0, 5, 1, 9);
            Checks.single(x, 1, leaves, 2, 20);
            x.bag(0, 0, 2, 1, 0, 0);
            due("layOut, comes at 9, second leg at " + leaves, x.layOut(), leaves >= 9 ? 0 : 1);
            due("hour", x.laid(0, 0), leaves >= 9 ? 20 : NONE);
        }
    }

    private static void legAheadThatComesAsSoon() {
        Checks.sentence("not ahead of the HOUR at which it is there");
        CourierDesk x = new CourierDesk();
        Checks.single(x, 1, 8, 2, 20);
        Checks.single(x, 0, 5, 1, 9);
        Checks.single(x, 1, 9, 2, 20);
        x.bag(0, 0, 2, 1, 0, 0);
        due("layOut", x.layOut(), 0);
        Checks.legs(x, 0, 1, 1, 2, 2);
        due("load of the one that left ahead", x.load(0, 0), 0);
    }

    private static void legFromTheTownWhereItIs() {
        Checks.sentence("each from the TOWN where it is");
        CourierDesk x = new CourierDesk();
        Checks.single(x, 0, 5, 1, 9);
        Checks.single(x, 2, 10, 3, 12);
        Checks.single(x, 1, 10, 3, 15);
        x.bag(0, 0, 3, 1, 0, 0);
        due("layOut", x.layOut(), 0);
        Checks.legs(x, 0, 0, 0, 2, 2);
        due("load of the leg from elsewhere", x.load(1, 0), 0);
    }

    private static void roomOfOneBag() {
        Checks.sentence("with room (what lies on a LEG, with it, weighs carry at most)");
        for (int weight = 1; weight <= 50; weight++) {
            for (int carry = Math.max(1, weight - 1); carry <= weight + 1; carry++) {
                CourierDesk x = new CourierDesk();
                Checks.rules(x, "carry " + carry);
                Checks.single(x, 0, 5, 1, 9);
                x.bag(0, 0, 1, weight, 0, 0);
                due("layOut, weight " + weight + " of " + carry, x.layOut(), weight <= carry ? 0 : 1);
                due("load", x.load(0, 0), weight <= carry ? weight : 0);
            }
        }
        CourierDesk y = new CourierDesk();
        Checks.single(y, 0, 5, 1, 9);
        y.bag(0, 0, 1, 21, 0, 0);
        y.bag(0, 0, 1, 20, 0, 0);
        due("layOut without rules", y.layOut(), 1);
        due("21 of 20", y.laid(0, 0), NONE);
        due("20 of 20", y.laid(1, 0), 9);
    }

    private static void roomOfMany() {
        Checks.sentence("what lies on a LEG, with it, weighs carry at most");
        int[] carries = {98, 99};
        for (int carry : carries) {
            CourierDesk x = new CourierDesk();
            Checks.rules(x, "carry " + carry);
            Checks.single(x, 0, 5, 1, 9);
            x.bag(0, 0, 1, 50, 9, 0);
            x.bag(0, 0, 1, 49, 8, 0);
            x.bag(0, 0, 1, 48, 7, 0);
            x.bag(0, 0, 1, 1, 6, 0);
            due("layOut, carry " + carry, x.layOut(), 2);
            due("49 beside 50", x.laid(1, 0), carry == 99 ? 9 : NONE);
            due("48 beside 50", x.laid(2, 0), carry == 99 ? NONE : 9);
            due("1 where all is full", x.laid(3, 0), NONE);
            due("load", x.load(0, 0), carry);
        }
    }

    private static void roomOnEachLeg() {
        Checks.sentence("LEGS, each from the TOWN where it is, not ahead of the HOUR at which it is there, with room");
        CourierDesk x = new CourierDesk();
        Checks.single(x, 0, 5, 1, 9);
        Checks.single(x, 1, 9, 2, 12);
        Checks.single(x, 1, 9, 2, 13);
        x.bag(1, 0, 2, 11, 5, 0);
        x.bag(0, 0, 2, 10, 4, 0);
        x.bag(0, 0, 2, 10, 3, 0);
        x.bag(0, 0, 1, 1, 2, 0);
        due("layOut", x.layOut(), 1);
        Checks.legs(x, 0, 1, 1);
        Checks.legs(x, 1, 0, 0, 2, 2);
        Checks.legs(x, 2, 0, 0, 2, 2);
        Checks.legs(x, 3);
        due("load of the first", x.load(0, 0), 20);
        due("load of the second", x.load(1, 0), 11);
        due("load of the third", x.load(2, 0), 20);
    }

    private static void roomAnew() {
        Checks.sentence("All BAGS are LAID OUT");
        CourierDesk x = new CourierDesk();
        Checks.single(x, 0, 5, 1, 9);
        x.bag(0, 0, 1, 20, 0, 0);
        for (int times = 1; times <= 3; times++) {
            due("layOut again", x.layOut(), 0);
            due("load", x.load(0, 0), 20);
        }
        x.bag(0, 0, 1, 20, 1, 0);
        due("layOut with a bag of a higher rank", x.layOut(), 1);
        due("the first one", x.laid(0, 0), NONE);
        due("the second one", x.laid(1, 0), 9);
        Checks.rules(x, "carry 19");
        due("as laid out last", x.load(0, 0), 20);
        due("layOut with less room", x.layOut(), 2);
        due("load then", x.load(0, 0), 0);
    }

    private static void wayThatComesSoonest() {
        Checks.sentence("the WAY that comes to its TOWN soonest");
        for (int direct = 8; direct <= 14; direct++) {
            CourierDesk x = new CourierDesk();
            Checks.single(x, 0, 5, 3, direct);
            Checks.single(x, 0, 5, 1, 7);
            Checks.single(x, 1, 7, 2, 9);
            Checks.single(x, 2, 9, 3, 11);
            x.bag(0, 0, 3, 1, 0, 0);
            due("layOut", x.layOut(), 0);
            due("hour, one leg to " + direct + ", three to 11", x.laid(0, 0), Math.min(direct, 11));
            due("legs", x.laid(0, 2), direct <= 11 ? 1 : 3);
        }
    }

    private static void wayOfTheFewestLegs() {
        Checks.sentence("of these that of the fewest LEGS");
        CourierDesk x = new CourierDesk();
        Checks.single(x, 0, 1, 1, 2);
        Checks.single(x, 1, 2, 2, 3);
        Checks.single(x, 2, 3, 3, 9);
        Checks.single(x, 1, 4, 3, 9);
        Checks.single(x, 0, 8, 3, 9);
        x.bag(0, 0, 3, 20, 3, 0);
        x.bag(0, 0, 3, 20, 2, 0);
        due("layOut", x.layOut(), 0);
        Checks.legs(x, 0, 4, 4);
        Checks.legs(x, 1, 0, 0, 3, 3);
        x.shut(1, 4, 4);
        due("layOut without the leg from 1 at 4", x.layOut(), 0);
        Checks.legs(x, 1, 0, 0, 1, 1, 2, 2);
    }

    private static void wayFirstByItsFirstLeg() {
        Checks.sentence("of these the first: by the first LEG");
        // The first leg is of the least courier, though it leaves last and its second leg is of the last courier.
        CourierDesk x = new CourierDesk();
        Checks.single(x, 0, 7, 1, 8);
        Checks.single(x, 0, 6, 2, 7);
        Checks.single(x, 2, 8, 3, 20);
        Checks.single(x, 0, 5, 4, 6);
        Checks.single(x, 4, 8, 3, 20);
        Checks.single(x, 1, 8, 3, 20);
        for (int b = 0; b < 4; b++) {
            x.bag(0, 0, 3, 20, 0, 0);
        }
        due("layOut", x.layOut(), 1);
        Checks.legs(x, 0, 0, 0, 5, 5);
        Checks.legs(x, 1, 1, 1, 2, 2);
        Checks.legs(x, 2, 3, 3, 4, 4);
        Checks.legs(x, 3);
    }

    private static void wayFirstByItsSecondLeg() {
        Checks.sentence("then the second, and so on");
        CourierDesk x = new CourierDesk();
        Checks.single(x, 0, 5, 1, 6);
        Checks.single(x, 1, 9, 2, 10);
        Checks.single(x, 1, 7, 2, 8);
        Checks.single(x, 2, 12, 3, 20);
        Checks.single(x, 2, 11, 3, 20);
        Checks.rules(x, "carry 60");
        x.bag(0, 0, 3, 20, 0, 0);
        due("layOut", x.layOut(), 0);
        Checks.legs(x, 0, 0, 0, 1, 1, 3, 3);
        Checks.rules(x, "carry 30");
        x.bag(1, 0, 2, 20, 1, 0);
        due("layOut beside another one", x.layOut(), 0);
        Checks.legs(x, 1, 2, 2);
        Checks.legs(x, 0, 0, 0, 1, 1, 3, 3);
        x.bag(2, 12, 3, 20, 1, 0);
        due("layOut beside two", x.layOut(), 0);
        Checks.legs(x, 0, 0, 0, 1, 1, 4, 4);
    }

    private static void wayFirstInTheOrderTaken() {
        Checks.sentence("by COURIERS, then in the order TAKEN");
        CourierDesk x = new CourierDesk();
        x.ride(0, 5, 1, 6);
        x.ride(1, 7, 0, 8);
        x.ride(0, 3, 1, 4);
        x.ride(1, 4, 0, 5);
        x.courier(0, 0);
        due("takes", x.take(0, 2) + x.take(0, 3) + x.take(0, 0) + x.take(0, 1), 0);
        x.ride(1, 20, 2, 21);
        x.courier(1, 0);
        x.take(1, 4);
        x.bag(0, 0, 2, 1, 0, 0);
        due("layOut", x.layOut(), 0);
        Checks.legs(x, 0, 0, 2, 1, 4);
        // Two couriers have taken one ride: the leg of the first courier is ahead.
        CourierDesk y = new CourierDesk();
        y.ride(0, 5, 1, 6);
        for (int c = 0; c < 6; c++) {
            y.courier(0, 0);
            y.bag(0, 0, 1, 20, 0, 0);
        }
        for (int c = 5; c >= 0; c--) {
            y.take(c, 0);
        }
        due("layOut of six", y.layOut(), 0);
        for (int c = 0; c < 6; c++) {
            Checks.legs(y, c, c, 0);
        }
    }

    private static void withoutAWay() {
        Checks.sentence("Without one it stays where it is.");
        CourierDesk x = new CourierDesk();
        Checks.single(x, 4, 5, 1, 9);
        x.bag(4, 3, 2, 1, 0, 0);
        due("layOut", x.layOut(), 1);
        due("hour", x.laid(0, 0), NONE);
        Checks.legs(x, 0);
        Checks.seals(x, 0, 3, 104);
        due("load of a leg that leads elsewhere", x.load(0, 0), 0);
        due("hand ahead of its hour", x.hand(0, 2), NONE);
        for (int hour = 3; hour <= 999; hour += 12) {
            due("hand at " + hour, x.hand(0, hour), 104);
        }
        due("hand at 999", x.hand(0, 999), 104);
    }

    private static void wayEndsInItsTown() {
        Checks.sentence("(A WAY ends as its TOWN is come to for the first time.)");
        CourierDesk x = new CourierDesk();
        x.courier(0, 0);
        x.ride(0, 5, 1, 9);
        x.ride(1, 9, 2, 12);
        x.ride(2, 12, 1, 15);
        for (int i = 0; i < 3; i++) {
            due("take", x.take(0, i), 0);
        }
        x.bag(0, 0, 1, 1, 0, 0);
        due("layOut", x.layOut(), 0);
        Checks.legs(x, 0, 0, 0);
        Checks.seals(x, 0, 0, 100, 5, 0, 9, 101);
        due("hour", x.laid(0, 0), 9);
        due("load of the next leg", x.load(0, 1), 0);
        due("load of the leg that comes there again", x.load(0, 2), 0);
        due("hand as the next leg leaves", x.hand(0, 10), 101);
        due("hand at the end", x.hand(0, 999), 101);
    }

    /** Seven couriers' hands, one behind the other, through all towns: the longest way that there is. */
    private static CourierDesk sevenLegs() {
        CourierDesk x = new CourierDesk();
        Checks.rules(x, "wake 99");
        for (int leg = 0; leg < 6; leg++) {
            Checks.single(x, leg, 10 * leg, leg + 1, 10 * leg + 5);
        }
        int back = x.ride(1, 8, 6, 9);
        int last = x.ride(6, 60, 7, 65);
        due("take of the ride back", x.take(0, back), 0);
        due("take of the last leg", x.take(0, last), 0);
        x.shut(1, 8, 8);
        x.bag(0, 0, 7, 3, 0, 60);
        due("layOut", x.layOut(), 0);
        return x;
    }

    private static void wayOfSevenLegs() {
        Checks.sentence("LEGS, each from the TOWN where it is");
        CourierDesk x = sevenLegs();
        due("hour", x.laid(0, 0), 65);
        due("behind due", x.laid(0, 1), 5);
        Checks.legs(x, 0, 0, 0, 1, 1, 2, 2, 3, 3, 4, 4, 5, 5, 0, 7);
        Checks.seals(x, 0, 0, 100, 0, 0, 5, 101, 10, 1, 15, 102, 20, 2, 25, 103, 30, 3, 35, 104, 40, 4, 45, 105, 50, 5,
            55, 106, 60, 0, 65, 107);
        due("load of the first leg", x.load(0, 0), 3);
        due("load of the ride that doesn't go", x.load(0, 1), 0);
        due("load of the last leg", x.load(0, 2), 3);
    }

    private static void laidHour() {
        Checks.sentence("what 0: the HOUR at which it comes (NONE: it doesn't, or wasn't there then)");
        CourierDesk x = new CourierDesk();
        Checks.single(x, 0, 0, 1, 1);
        Checks.single(x, 2, 998, 3, 999);
        x.bag(0, 0, 1, 1, 0, 0);
        x.bag(2, 0, 3, 1, 0, 0);
        x.bag(0, 0, 3, 1, 0, 0);
        due("ahead of layOut", x.laid(0, 0), NONE);
        due("layOut", x.layOut(), 1);
        due("the least hour", x.laid(0, 0), 1);
        due("the last hour", x.laid(1, 0), 999);
        due("it doesn't come", x.laid(2, 0), NONE);
        x.bag(0, 0, 1, 1, 0, 0);
        due("it wasn't there then", x.laid(3, 0), NONE);
    }

    private static void laidBehindDue() {
        Checks.sentence("1: HOURS behind DUE (0 if not; NONE likewise)");
        for (int due = 0; due <= 30; due++) {
            CourierDesk x = new CourierDesk();
            Checks.single(x, 0, 5, 1, 15);
            x.bag(0, 0, 1, 1, 0, due);
            due("ahead of layOut", x.laid(0, 1), NONE);
            x.layOut();
            due("comes at 15, due at " + due, x.laid(0, 1), due < 15 ? 15 - due : 0);
            x.bag(0, 0, 1, 1, 0, due);
            due("it wasn't there then, due at " + due, x.laid(1, 1), NONE);
            x.ill(0, 0);
            x.layOut();
            due("it doesn't come, due at " + due, x.laid(0, 1), NONE);
        }
        CourierDesk y = new CourierDesk();
        Checks.single(y, 0, 998, 1, 999);
        y.bag(0, 0, 1, 1, 0, 0);
        y.bag(0, 0, 1, 1, 0, 999);
        y.layOut();
        due("the most hours behind", y.laid(0, 1), 999);
        due("due at the last hour", y.laid(1, 1), 0);
    }

    private static void laidLegsAndSeals() {
        Checks.sentence("2: LEGS (0), 3: SEALS (0)");
        CourierDesk x = sevenLegs();
        due("seven legs", x.laid(0, 2), 7);
        due("fifteen seals", x.laid(0, 3), 15);
        x.bag(0, 0, 7, 1, 0, 0);
        due("legs of one that wasn't there then", x.laid(1, 2), 0);
        due("seals of one that wasn't there then", x.laid(1, 3), 0);
        x.ill(0, 0);
        due("layOut without the first leg", x.layOut(), 2);
        due("legs of one that doesn't come", x.laid(0, 2), 0);
        due("seals of one that doesn't come: its desk's", x.laid(0, 3), 1);
        due("legs of the other one", x.laid(1, 2), 0);
        due("seals of the other one", x.laid(1, 3), 1);
    }

    private static void laidWasNotThereThen() {
        Checks.sentence("Of a BAG as LAID OUT last");
        CourierDesk x = new CourierDesk();
        Checks.single(x, 0, 5, 1, 9);
        x.bag(0, 0, 1, 1, 0, 2);
        int[] never = {NONE, NONE, 0, 0};
        int[] then = {9, 7, 1, 3};
        for (int what = 0; what <= 3; what++) {
            due("never laid out, what " + what, x.laid(0, what), never[what]);
        }
        x.layOut();
        x.bag(0, 0, 1, 1, 9, 2);
        x.shut(0, 0, 999);
        Checks.rules(x, "carry 1");
        x.ill(0, 0);
        for (int what = 0; what <= 3; what++) {
            due("laid out then, what " + what, x.laid(0, what), then[what]);
            due("wasn't there then, what " + what, x.laid(1, what), never[what]);
        }
    }

    private static void laidWithoutItOrForOthers() {
        Checks.sentence("NONE without it, or for another what.");
        CourierDesk x = sevenLegs();
        x.bag(0, 0, 7, 3, 0, 60);
        x.layOut();
        int[] want = {65, 5, 7, 15};
        for (int bag = 0; bag <= 1; bag++) {
            int b = bag;
            Checks.range("laid what", 0, 3, what -> want[what], what -> x.laid(b, what));
        }
        for (int what = 0; what <= 3; what++) {
            int w = what;
            Checks.range("laid bag", 0, 1, b -> want[w], b -> x.laid(b, w));
        }
        due("laid without both", x.laid(2, 4), NONE);
    }

    private static void legOfEachPlace() {
        Checks.sentence("LEG i of its WAY what 0: the COURIER, 1: the RIDE; NONE.");
        CourierDesk x = sevenLegs();
        int[] couriers = {0, 1, 2, 3, 4, 5, 0};
        int[] rides = {0, 1, 2, 3, 4, 5, 7};
        Checks.range("leg i, courier", 0, 6, i -> couriers[i], i -> x.leg(0, i, 0));
        Checks.range("leg i, ride", 0, 6, i -> rides[i], i -> x.leg(0, i, 1));
        Checks.range("leg what", 0, 1, what -> 7 * what, what -> x.leg(0, 6, what));
        Checks.range("leg bag", 0, 0, 7, b -> x.leg(b, 6, 1));
        x.bag(0, 0, 7, 3, 0, 0);
        due("leg of one that wasn't there then", x.leg(1, 0, 0), NONE);
        due("leg of all wrong", x.leg(LEAST, MOST, LEAST), NONE);
        CourierDesk y = new CourierDesk();
        y.bag(0, 0, 1, 1, 0, 0);
        due("leg of one never laid out", y.leg(0, 0, 1), NONE);
        y.layOut();
        due("leg of one without a way", y.leg(0, 0, 1), NONE);
    }

    private static void sealOfEachPlace() {
        Checks.sentence("SEAL i of a BAG, as LAID OUT last, what 0: the HOUR, 1: who has it from then on (as hand());"
            + " NONE.");
        CourierDesk x = sevenLegs();
        int[] hours = {0, 0, 5, 10, 15, 20, 25, 30, 35, 40, 45, 50, 55, 60, 65};
        int[] holders = {100, 0, 101, 1, 102, 2, 103, 3, 104, 4, 105, 5, 106, 0, 107};
        Checks.range("seal i, hour", 0, 14, i -> hours[i], i -> x.seal(0, i, 0));
        Checks.range("seal i, holder", 0, 14, i -> holders[i], i -> x.seal(0, i, 1));
        Checks.range("seal what", 0, 1, what -> what == 0 ? 65 : 107, what -> x.seal(0, 14, what));
        Checks.range("seal bag", 0, 0, 107, b -> x.seal(b, 14, 1));
        x.bag(0, 0, 7, 3, 0, 0);
        due("seal of one that wasn't there then", x.seal(1, 0, 0), NONE);
        due("seal of all wrong", x.seal(LEAST, MOST, LEAST), NONE);
        CourierDesk y = new CourierDesk();
        y.bag(0, 7, 1, 1, 0, 0);
        due("seal of one never laid out", y.seal(0, 0, 0), NONE);
        y.layOut();
        due("seal of one without a way, hour", y.seal(0, 0, 0), 7);
        due("seal of one without a way, holder", y.seal(0, 0, 1), 100);
        due("seal behind it", y.seal(0, 1, 0), NONE);
    }
}
