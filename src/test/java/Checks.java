/** Counts checks, tells those that fail, and ends the test with exit code 1 if there was one. */
final class Checks {
    private static int passed = 0;
    private static int failed = 0;

    private Checks() {
    }

    static void due(String call, long got, long want) {
        if (got == want) {
            passed++;
        } else {
            failed++;
            System.out.println(call + " answered " + got + ", due is " + want);
        }
    }

    static void holds(String what, boolean itDoes) {
        due(what, itDoes ? 1 : 0, 1);
    }

    static boolean anyFailed() {
        return failed > 0;
    }

    static void close(String test) {
        System.out.println(test + ": " + passed + " checks passed, " + failed + " failed");
        if (failed > 0) {
            System.exit(1);
        }
    }

    /** Feeds a text and cuts the tape behind it; the tape must be empty. */
    static void write(CourierDesk desk, String text) {
        int[] n = new int[5];
        for (int start = 0; start < text.length(); start += 20) {
            for (int k = 0; k < 5; k++) {
                n[k] = 0;
                for (int b = 0; b < 4; b++) {
                    int place = start + 4 * k + b;
                    n[k] = n[k] << 8 | (place < text.length() ? text.charAt(place) & 255 : 0);
                }
            }
            desk.feed(n[0], n[1], n[2], n[3], n[4]);
        }
        desk.end(text.length());
    }

    static int rules(CourierDesk desk, String text) {
        write(desk, text);
        return desk.rules();
    }
}
