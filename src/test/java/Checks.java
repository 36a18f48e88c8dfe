import java.util.function.IntUnaryOperator;

/** Counts checks, tells those that fail, and ends the test with exit code 1 if there was one. */
final class Checks {
    private static int passed = 0;
    private static int failed = 0;
    private static int sentences = 0;
    private static String sentence = "";

    private Checks() {
    }

    /** The document's words that the checks from here on stand for; a check that fails tells them. */
    static void sentence(String words) {
        sentence = "'" + words + "': ";
        sentences++;
    }

    static void due(String call, long got, long want) {
        if (got == want) {
            passed++;
        } else {
            failed++;
            System.out.println(sentence + call + " answered " + got + ", due is " + want);
        }
    }

    static void holds(String what, boolean itDoes) {
        due(what, itDoes ? 1 : 0, 1);
    }

    /** Each value from least to most has its answer; those beside them, and the ends of int, are refused with NONE. */
    static void range(String what, int least, int most, IntUnaryOperator want, IntUnaryOperator call) {
        for (int good = least; good <= most; good++) {
            due(what + " " + good, call.applyAsInt(good), want.applyAsInt(good));
        }
        int[] wrong = {least - 1, most + 1, Integer.MIN_VALUE, Integer.MIN_VALUE + 1, Integer.MAX_VALUE - 1,
            Integer.MAX_VALUE, ~most, most + 65536, most + 256};
        for (int bad : wrong) {
            due(what + " " + bad, call.applyAsInt(bad), CourierDesk.NONE);
        }
    }

    static void range(String what, int least, int most, int want, IntUnaryOperator call) {
        range(what, least, most, good -> want, call);
    }

    static boolean anyFailed() {
        return failed > 0;
    }

    static void close(String test) {
        String counted = sentences > 0 ? sentences + " sentences, " : "";
        System.out.println(test + ": " + counted + passed + " checks passed, " + failed + " failed");
        if (failed > 0) {
            System.exit(1);
        }
    }

    /** Feeds a text and cuts the tape behind it; the tape must be empty. */
    static void write(CourierDesk desk, String text) {
        int[] n = new int[5];
        for (int start = 0; start < text.length(); start += 20) {
            for (int k = 0; k < 5; k++) {
                n[k] = 0;
                for (int b = 0; b < 4; b++) {
                    int place = start + 4 * k + b;
                    n[k] = n[k] << 8 | (place < text.length() ? text.charAt(place) & 255 : 0);
                }
            }
            desk.feed(n[0], n[1], n[2], n[3], n[4]);
        }
        desk.end(text.length());
    }

    static int rules(CourierDesk desk, String text) {
        write(desk, text);
        return desk.rules();
    }

    /** A courier of that town takes a ride that is made for him: his number. */
    static int single(CourierDesk desk, int from, int leaves, int to, int comes) {
        int courier = desk.courier(from, leaves);
        int ride = desk.ride(from, leaves, to, comes);
        due("take of a single ride", desk.take(courier, ride), 0);
        return courier;
    }

    /** All seals of a bag, each an hour and who has it from then on. */
    static void seals(CourierDesk desk, int bag, int... hoursAndHolders) {
        int count = hoursAndHolders.length / 2;
        due("seals of bag " + bag, desk.laid(bag, 3), count);
        for (int i = 0; i < count; i++) {
            due("seal " + i + " hour", desk.seal(bag, i, 0), hoursAndHolders[2 * i]);
            due("seal " + i + " holder", desk.seal(bag, i, 1), hoursAndHolders[2 * i + 1]);
        }
        due("seal behind the last, hour", desk.seal(bag, count, 0), CourierDesk.NONE);
        due("seal behind the last, holder", desk.seal(bag, count, 1), CourierDesk.NONE);
    }

    /** All legs of a bag's way, each a courier and a ride. */
    static void legs(CourierDesk desk, int bag, int... couriersAndRides) {
        int count = couriersAndRides.length / 2;
        due("legs of bag " + bag, desk.laid(bag, 2), count);
        for (int i = 0; i < count; i++) {
            due("leg " + i + " courier", desk.leg(bag, i, 0), couriersAndRides[2 * i]);
            due("leg " + i + " ride", desk.leg(bag, i, 1), couriersAndRides[2 * i + 1]);
        }
        due("leg behind the last, courier", desk.leg(bag, count, 0), CourierDesk.NONE);
        due("leg behind the last, ride", desk.leg(bag, count, 1), CourierDesk.NONE);
    }

    /** A text has a fault: its answer, the tape is empty, and the rules that were in force stay. */
    static void fault(String text, int place, int kind) {
        CourierDesk desk = new CourierDesk();
        rules(desk, "wake 30;rest 9;carry 31;pay 32;wait 33");
        due("rules '" + text + "'", rules(desk, text), -2 - (1 + 8 * place + kind));
        due("tape behind '" + text + "'", desk.count(4), 0);
        inForce(desk, "behind '" + text + "'", 30, 9, 31, 32, 33);
    }

    static void inForce(CourierDesk desk, String when, int... rules) {
        String[] words = {"wake ", "rest ", "carry ", "pay ", "wait "};
        for (int k = 0; k < words.length; k++) {
            due(words[k] + when, desk.count(10 + k), rules[k]);
        }
    }
}
