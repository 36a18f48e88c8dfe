/** The edges of the tape and of the rules' text: a test for each sentence that names one. */
public final class RulesEdgeTest {
    private static final int NONE = CourierDesk.NONE;
    private static final int BLANKS = 0x20202020;
    private static final String[] WORDS = {"wake", "rest", "carry", "pay", "wait"};
    private static final int[] LEAST = {1, 1, 1, 0, 0};
    private static final int[] MOST = {99, 24, 99, 99, 99};
    private static final int[] WITHOUT = {24, 8, 20, 1, 0};

    private RulesEdgeTest() {
    }

    private static void due(String call, long got, long want) {
        Checks.due(call, got, want);
    }

    public static void main(String[] args) {
        feedTwenty();
        feedEachByteInItsPlace();
        feedBytesOfAllValues();
        feedOverHundred();
        feedJustHundred();
        feedRefusedBringsNothing();
        endCuts();
        endBelowZero();
        endNotSoMany();
        endRefusedLeavesTheTape();
        tapeIsEmptyThen();
        textOfHundredBytes();
        rulesOneToFive();
        semicolonsBetween();
        wordOnceAtMost();
        numbersOfEachWord();
        wordsWithout();
        wordsAreSmallLetters();
        wordsThatCantStand();
        wordsOfAnotherLetter();
        numbersOneToTwoDigits();
        digitsGoOn();
        blanksBetween();
        blanksAreThirtyTwo();
        blanksAlone();
        firstFaultAlong();
        placesOfFaults();
        endBehindTheLastByte();
        byteAheadOfAWord();
        byteBehindAWord();
        byteBehindANumber();
        byteBehindASemicolon();
        numberNotAsTold();
        wordToldTwice();
        howManyWereTold();
        thoseAheadStay();
        rulesToldAnew();
        Checks.close("RulesEdgeTest");
    }

    private static String blanks(int count) {
        return " ".repeat(count);
    }

    private static void good(String text, int told, int... inForce) {
        CourierDesk x = new CourierDesk();
        Checks.rules(x, "wake 30;rest 9;carry 31;pay 32;wait 33");
        due("rules '" + text + "'", Checks.rules(x, text), told);
        Checks.inForce(x, "behind '" + text + "'", inForce);
        due("tape behind '" + text + "'", x.count(4), 0);
    }

    private static void feedTwenty() {
        Checks.sentence("Twenty bytes come behind the TAPE, of each number the highest first: how many it has");
        CourierDesk x = new CourierDesk();
        for (int n = 20; n <= 100; n += 20) {
            due("feed", x.feed(0, -1, Integer.MIN_VALUE, Integer.MAX_VALUE, BLANKS), n);
            due("bytes", x.count(4), n);
        }
        CourierDesk y = new CourierDesk();
        y.feed(BLANKS, BLANKS, BLANKS, BLANKS, BLANKS);
        y.end(7);
        due("feed behind 7 bytes", y.feed(BLANKS, BLANKS, BLANKS, BLANKS, BLANKS), 27);
    }

    private static void feedEachByteInItsPlace() {
        Checks.sentence("of each number the highest first");
        for (int place = 0; place < 100; place++) {
            CourierDesk x = new CourierDesk();
            for (int start = 0; start < 100; start += 20) {
                int[] n = {BLANKS, BLANKS, BLANKS, BLANKS, BLANKS};
                if (place >= start && place < start + 20) {
                    // '#' is the blank's byte and 3 more
                    n[(place - start) / 4] += 3 << 8 * (3 - place % 4);
                }
                x.feed(n[0], n[1], n[2], n[3], n[4]);
            }
            due("rules of blanks with '#' at " + place, x.rules(), -2 - (1 + 8 * place));
        }
        CourierDesk y = new CourierDesk();
        due("feed 'wake 12;rest 13;pay4'", y.feed(0x77616b65, 0x2031323b, 0x72657374, 0x2031333b, 0x70617934), 20);
        due("rules", y.rules(), 3);
        Checks.inForce(y, "as fed", 12, 13, 20, 4, 0);
    }

    private static void feedBytesOfAllValues() {
        Checks.sentence("Twenty bytes come behind the TAPE");
        for (int value = 0; value <= 255; value++) {
            CourierDesk x = new CourierDesk();
            x.feed(value << 24 | 0x202020, BLANKS, BLANKS, BLANKS, BLANKS);
            due("rules of byte " + value + " and blanks", x.rules(), value == ' ' ? 0 : -3);
            x.feed(0x77616b65, 0x20350000 | value << 8 | 0x20, BLANKS, BLANKS, BLANKS);
            int want = value == ' ' ? 1 : value == ';' ? -2 - (1 + 8 * 20) : -2 - (1 + 8 * 6);
            due("rules 'wake 5' and byte " + value, x.rules(), value >= '0' && value <= '9' ? 1 : want);
        }
    }

    private static void feedOverHundred() {
        Checks.sentence("NONE, and none comes: it would have more than 100.");
        for (int has = 0; has <= 100; has++) {
            CourierDesk x = new CourierDesk();
            Checks.write(x, blanks(has));
            due("bytes", x.count(4), has);
            due("feed behind " + has, x.feed(BLANKS, BLANKS, BLANKS, BLANKS, BLANKS), has <= 80 ? has + 20 : NONE);
            due("bytes then", x.count(4), has <= 80 ? has + 20 : has);
        }
    }

    private static void feedJustHundred() {
        Checks.sentence("it would have more than 100");
        CourierDesk x = new CourierDesk();
        Checks.write(x, blanks(80));
        due("feed to 100", x.feed(BLANKS, BLANKS, BLANKS, BLANKS, 0x20207761), 100);
        due("feed over it", x.feed(BLANKS, BLANKS, BLANKS, BLANKS, BLANKS), NONE);
        due("rules, 'wa' behind 98 blanks", x.rules(), -2 - (1 + 8 * 98));
        due("feed anew", x.feed(BLANKS, BLANKS, BLANKS, BLANKS, BLANKS), 20);
    }

    private static void feedRefusedBringsNothing() {
        Checks.sentence("NONE, and none comes");
        CourierDesk x = new CourierDesk();
        Checks.write(x, blanks(75) + "wake 7");
        due("feed behind 81", x.feed(-1, -1, -1, -1, -1), NONE);
        due("bytes", x.count(4), 81);
        due("end(82)", x.end(82), NONE);
        due("rules of what was there", x.rules(), 1);
        due("wake", x.count(10), 7);
    }

    private static void endCuts() {
        Checks.sentence("The TAPE has its first n bytes alone: n");
        for (int n = 0; n <= 100; n++) {
            CourierDesk x = new CourierDesk();
            Checks.write(x, blanks(100));
            due("end", x.end(n), n);
            due("bytes", x.count(4), n);
        }
        CourierDesk y = new CourierDesk();
        Checks.write(y, "wake 12;rest 3");
        due("end behind the 1", y.end(6), 6);
        due("rules", y.rules(), 1);
        Checks.inForce(y, "cut", 1, 8, 20, 1, 0);
        Checks.write(y, "wake 12;rest 3");
        y.end(6);
        due("feed behind what is left", y.feed(0x33202020, BLANKS, BLANKS, BLANKS, BLANKS), 26);
        due("rules", y.rules(), 1);
        Checks.inForce(y, "cut and fed", 13, 8, 20, 1, 0);
    }

    private static void endBelowZero() {
        Checks.sentence("or n is below 0");
        CourierDesk x = new CourierDesk();
        Checks.write(x, blanks(9));
        int[] below = {-1, -2, -9, -100, Integer.MIN_VALUE};
        for (int n : below) {
            due("end(" + n + ")", x.end(n), NONE);
            due("bytes", x.count(4), 9);
        }
        due("end(0)", x.end(0), 0);
        due("bytes", x.count(4), 0);
        due("end(-1) of none", x.end(-1), NONE);
    }

    private static void endNotSoMany() {
        Checks.sentence("if it has not so many");
        for (int has = 0; has <= 100; has++) {
            CourierDesk x = new CourierDesk();
            Checks.write(x, blanks(has));
            due("end one behind " + has, x.end(has + 1), NONE);
            due("end most", x.end(Integer.MAX_VALUE), NONE);
            due("bytes", x.count(4), has);
            due("end at " + has, x.end(has), has);
            due("bytes", x.count(4), has);
        }
        CourierDesk y = new CourierDesk();
        Checks.write(y, blanks(100));
        y.end(50);
        due("end behind a cut", y.end(51), NONE);
        due("end where it was cut", y.end(50), 50);
        y.rules();
        due("end(1) behind rules", y.end(1), NONE);
    }

    private static void endRefusedLeavesTheTape() {
        Checks.sentence("NONE, and nothing happens");
        CourierDesk x = new CourierDesk();
        Checks.write(x, "wake 12");
        due("end(8)", x.end(8), NONE);
        due("end(-1)", x.end(-1), NONE);
        due("bytes", x.count(4), 7);
        due("rules", x.rules(), 1);
        due("wake", x.count(10), 12);
    }

    private static void tapeIsEmptyThen() {
        Checks.sentence("The TAPE, which is empty then, is the RULES");
        CourierDesk x = new CourierDesk();
        Checks.write(x, "wake 12");
        due("rules", x.rules(), 1);
        due("bytes", x.count(4), 0);
        due("end(1)", x.end(1), NONE);
        Checks.write(x, "wake x");
        due("rules with a fault", x.rules(), -2 - (1 + 8 * 5));
        due("bytes behind a fault", x.count(4), 0);
        due("end(1) behind a fault", x.end(1), NONE);
        Checks.write(x, "rest 3");
        due("rules of the next text alone", x.rules(), 1);
        Checks.inForce(x, "of the next text", 24, 3, 20, 1, 0);
    }

    private static void textOfHundredBytes() {
        Checks.sentence("a text of at most 100 bytes");
        String rules = "wake 11;rest 12;carry 13;pay 14;wait 15";
        good(blanks(100 - rules.length()) + rules, 5, 11, 12, 13, 14, 15);
        good(rules + blanks(100 - rules.length()), 5, 11, 12, 13, 14, 15);
        good(rules.replace("wake", "wake" + blanks(100 - rules.length())), 5, 11, 12, 13, 14, 15);
        Checks.fault(rules + blanks(99 - rules.length()) + "#", 99, 0);
        Checks.fault(rules + blanks(99 - rules.length()) + ";", 100, 0);
    }

    private static void rulesOneToFive() {
        Checks.sentence("RULE { ; RULE }: WORD NUMBER");
        int[] numbers = {21, 22, 23, 25, 26};
        StringBuilder text = new StringBuilder();
        int[] want = WITHOUT.clone();
        for (int k = 0; k < 5; k++) {
            text.append(k == 0 ? "" : ";").append(WORDS[k]).append(' ').append(numbers[k]);
            want[k] = numbers[k];
            good(text.toString(), k + 1, want);
            Checks.fault(text + ";", text.length() + 1, 0);
        }
        good("wait 26;pay 25;carry 23;rest 22;wake 21", 5, 21, 22, 23, 25, 26);
        Checks.fault(text + ";wake 1", text.length() + 1, 2);
        Checks.fault(text + ";other 1", text.length() + 1, 0);
    }

    private static void semicolonsBetween() {
        Checks.sentence("RULE { ; RULE }");
        Checks.fault(";", 0, 0);
        Checks.fault(" ;", 1, 0);
        Checks.fault(";wake 5", 0, 0);
        Checks.fault("wake 5;", 7, 0);
        Checks.fault("wake 5; ", 8, 0);
        Checks.fault("wake 5;;rest 6", 7, 0);
        Checks.fault("wake 5; ;rest 6", 8, 0);
        Checks.fault("wake 5 rest 6", 7, 0);
        Checks.fault("wake 5rest 6", 6, 0);
        Checks.fault("wake 5,rest 6", 6, 0);
        Checks.fault("wake ; 5", 5, 0);
        Checks.fault("wake 5 6", 7, 0);
        Checks.fault("wake wake 5", 5, 0);
        Checks.fault("5 wake", 0, 0);
        Checks.fault("wake;rest 5", 4, 0);
        good("wake 5;rest 6", 2, 5, 6, 20, 1, 0);
    }

    private static void wordOnceAtMost() {
        Checks.sentence("each WORD once at most");
        for (int k = 0; k < 5; k++) {
            String once = WORDS[k] + " 7";
            int[] want = WITHOUT.clone();
            want[k] = 7;
            good(once, 1, want);
            Checks.fault(once + ";" + once, once.length() + 1, 2);
            for (int j = 0; j < 5; j++) {
                String two = once + ";" + WORDS[j] + " 7";
                if (j != k) {
                    want = WITHOUT.clone();
                    want[k] = 7;
                    want[j] = 7;
                    good(two, 2, want);
                    Checks.fault(two + ";" + once, two.length() + 1, 2);
                }
            }
        }
    }

    private static void numbersOfEachWord() {
        Checks.sentence("wake (1 to 99; 24 without), rest (1 to 24; 8), carry (1 to 99; 20), pay (0 to 99; 1), wait"
            + " (0 to 99; 0)");
        for (int k = 0; k < 5; k++) {
            for (int number = 0; number <= 101; number++) {
                String text = WORDS[k] + " " + number;
                if (number >= LEAST[k] && number <= MOST[k]) {
                    int[] want = WITHOUT.clone();
                    want[k] = number;
                    good(text, 1, want);
                } else {
                    Checks.fault(text, WORDS[k].length() + 1, 1);
                }
            }
        }
    }

    private static void wordsWithout() {
        Checks.sentence("24 without");
        for (int k = 0; k < 5; k++) {
            int[] want = WITHOUT.clone();
            want[k] = MOST[k];
            good(WORDS[k] + MOST[k], 1, want);
            want[k] = LEAST[k];
            good(WORDS[k] + LEAST[k], 1, want);
        }
        good("", 0, WITHOUT);
    }

    private static void wordsAreSmallLetters() {
        Checks.sentence("WORDS are small letters");
        for (String word : WORDS) {
            for (int i = 0; i < word.length(); i++) {
                String large = word.substring(0, i) + (char) (word.charAt(i) - 32) + word.substring(i + 1);
                Checks.fault(large + " 7", 0, 0);
            }
        }
        // The bytes beside 'a' and 'z' are no letters: a word ends ahead of them.
        Checks.fault("wake` 5", 4, 0);
        Checks.fault("wake{ 5", 4, 0);
        Checks.fault("`wake 5", 0, 0);
        Checks.fault("{wake 5", 0, 0);
        Checks.fault("wakea 5", 0, 0);
        Checks.fault("wakez 5", 0, 0);
        Checks.fault("wake\u00e5 5", 4, 0);
    }

    private static void wordsThatCantStand() {
        Checks.sentence("0 a byte or WORD that can't stand there");
        for (String word : WORDS) {
            for (int length = 1; length < word.length(); length++) {
                Checks.fault(word.substring(0, length) + " 7", 0, 0);
                Checks.fault(word.substring(length) + " 7", 0, 0);
            }
            Checks.fault(word + "s 7", 0, 0);
            Checks.fault("s" + word + " 7", 0, 0);
            Checks.fault(word + word + " 7", 0, 0);
            Checks.fault("  " + word + "e7", 2, 0);
            Checks.fault(word + " " + word + " 7", word.length() + 1, 0);
            Checks.fault(word + " 7 " + word, word.length() + 3, 0);
            Checks.fault(word + " 7" + word, word.length() + 2, 0);
            Checks.fault(word + "7; " + word + "x 8", word.length() + 3, 0);
        }
        Checks.fault("a".repeat(100), 0, 0);
        Checks.fault(blanks(99) + "w", 99, 0);
        Checks.fault(blanks(96) + "wake", 100, 0);
    }

    private static void wordsOfAnotherLetter() {
        Checks.sentence("0 a byte or WORD that can't stand there");
        for (String word : WORDS) {
            for (int i = 0; i < word.length(); i++) {
                for (char other = 'a'; other <= 'z'; other++) {
                    if (other != word.charAt(i)) {
                        Checks.fault(word.substring(0, i) + other + word.substring(i + 1) + " 7", 0, 0);
                    }
                }
            }
        }
    }

    private static void numbersOneToTwoDigits() {
        Checks.sentence("NUMBERS 1 to 2 digits");
        good("wake 5", 1, 5, 8, 20, 1, 0);
        good("wake 05", 1, 5, 8, 20, 1, 0);
        good("wake 55", 1, 55, 8, 20, 1, 0);
        good("pay 0;wait 00", 2, 24, 8, 20, 0, 0);
        good("rest 09", 1, 24, 9, 20, 1, 0);
        Checks.fault("wake ", 5, 0);
        Checks.fault("wake ;", 5, 0);
        Checks.fault("wake 005", 5, 1);
        Checks.fault("pay 000", 4, 1);
        Checks.fault("wake 100", 5, 1);
        Checks.fault("wake +5", 5, 0);
        Checks.fault("wake -5", 5, 0);
        Checks.fault("wake .5", 5, 0);
    }

    private static void digitsGoOn() {
        Checks.sentence("(as far as digits go on)");
        Checks.fault("wake 1 0", 7, 0);
        Checks.fault("wake 10 0", 8, 0);
        Checks.fault("wake 1234567890", 5, 1);
        Checks.fault("wake 4294967301", 5, 1);
        Checks.fault("wake " + "0".repeat(94) + "5", 5, 1);
        Checks.fault("wake 111 x", 5, 1);
        Checks.fault("wake 11/", 7, 0);
        Checks.fault("wake 11:", 7, 0);
        Checks.fault("wake /1", 5, 0);
        Checks.fault("wake :1", 5, 0);
        good("wake 10;rest 9", 2, 10, 9, 20, 1, 0);
    }

    private static void blanksBetween() {
        Checks.sentence("blanks (32) between");
        for (int count = 0; count <= 10; count++) {
            String b = blanks(count);
            good(b + "wake" + b + "5" + b + ";" + b + "rest" + b + "16" + b, 2, 5, 16, 20, 1, 0);
        }
        Checks.fault("wa ke 5", 0, 0);
        Checks.fault("wake 1 5", 7, 0);
    }

    private static void blanksAreThirtyTwo() {
        Checks.sentence("blanks (32)");
        int[] others = {0, 9, 10, 13, 31, 33, 95, 127, 128, 160, 255};
        for (int other : others) {
            char c = (char) other;
            Checks.fault(c + "wake 5;rest 6", 0, 0);
            Checks.fault("wake" + c + "5;rest 6", 4, 0);
            Checks.fault("wake 5" + c + ";rest 6", 6, 0);
            Checks.fault("wake 5;" + c + "rest 6", 7, 0);
            Checks.fault("wake 5;rest 6" + c, 13, 0);
            Checks.fault("" + c, 0, 0);
        }
    }

    private static void blanksAlone() {
        Checks.sentence("A text of blanks alone: all as without.");
        for (int count = 0; count <= 100; count++) {
            good(blanks(count), 0, WITHOUT);
        }
        CourierDesk x = new CourierDesk();
        due("rules of a new object", x.rules(), 0);
        Checks.inForce(x, "of a new object", WITHOUT);
    }

    private static void firstFaultAlong() {
        Checks.sentence("FAULTS, the first along it");
        Checks.fault("wake 0;wake 5;#", 5, 1);
        Checks.fault("wake 5;wake 0;#", 7, 2);
        Checks.fault("#wake 0;wake 5", 0, 0);
        Checks.fault("wake 5;wake", 7, 2);
        Checks.fault("wake 0", 5, 1);
        Checks.fault("wake 0;", 5, 1);
        Checks.fault("wake 100x", 5, 1);
        Checks.fault("wake 5;rest 25;pay 100", 12, 1);
        Checks.fault("wake 5;rest;wake", 11, 0);
        Checks.fault("wake 5;wake;rest", 7, 2);
        Checks.fault("wake 5;wakes;wake 0", 7, 0);
    }

    private static void placesOfFaults() {
        Checks.sentence("1 + 8 * its place");
        for (int place = 0; place <= 99; place++) {
            Checks.fault(blanks(place) + "#", place, 0);
            Checks.fault(blanks(place) + "#" + blanks(99 - place), place, 0);
        }
        for (int place = 5; place <= 97; place++) {
            Checks.fault("wake" + blanks(place - 4) + "100", place, 1);
        }
        for (int place = 7; place <= 96; place++) {
            Checks.fault("wake 5;" + blanks(place - 7) + "wake", place, 2);
        }
    }

    private static void endBehindTheLastByte() {
        Checks.sentence("or the end (behind the last byte)");
        for (int length = 4; length <= 100; length++) {
            Checks.fault("wake" + blanks(length - 4), length, 0);
        }
        for (int length = 7; length <= 100; length++) {
            Checks.fault("wake 5;" + blanks(length - 7), length, 0);
        }
    }

    private static void byteAheadOfAWord() {
        Checks.sentence("0 a byte or WORD that can't stand there");
        for (int value = 0; value <= 255; value++) {
            if (value == ' ') {
                good((char) value + "wake 5", 1, 5, 8, 20, 1, 0);
            } else {
                Checks.fault((char) value + "wake 5", 0, 0);
            }
        }
    }

    private static void byteBehindAWord() {
        Checks.sentence("0 a byte or WORD that can't stand there");
        for (int value = 0; value <= 255; value++) {
            String text = "wake" + (char) value + "5";
            if (value == ' ') {
                good(text, 1, 5, 8, 20, 1, 0);
            } else if (value >= '0' && value <= '9') {
                good(text, 1, 10 * (value - '0') + 5, 8, 20, 1, 0);
            } else {
                Checks.fault(text, value >= 'a' && value <= 'z' ? 0 : 4, 0);
            }
        }
    }

    private static void byteBehindANumber() {
        Checks.sentence("0 a byte or WORD that can't stand there");
        for (int value = 0; value <= 255; value++) {
            String text = "wake 5" + (char) value + "rest 6";
            if (value == ';') {
                good(text, 2, 5, 6, 20, 1, 0);
            } else {
                boolean on = value == ' ' || value >= '0' && value <= '9';
                Checks.fault(text, on ? 7 : 6, 0);
            }
        }
    }

    private static void byteBehindASemicolon() {
        Checks.sentence("0 a byte or WORD that can't stand there");
        for (int value = 0; value <= 255; value++) {
            String text = "wake 5;" + (char) value + "rest 6";
            if (value == ' ') {
                good(text, 2, 5, 6, 20, 1, 0);
            } else {
                Checks.fault(text, 7, 0);
            }
        }
    }

    private static void numberNotAsTold() {
        Checks.sentence("1 a NUMBER not as told (of more digits, too)");
        Checks.fault("wake 0", 5, 1);
        Checks.fault("wake 00", 5, 1);
        Checks.fault("rest 0", 5, 1);
        Checks.fault("rest 25", 5, 1);
        Checks.fault("rest 99", 5, 1);
        Checks.fault("carry 0", 6, 1);
        Checks.fault("carry 100", 6, 1);
        Checks.fault("pay 100", 4, 1);
        Checks.fault("wait 100", 5, 1);
        Checks.fault("rest 008", 5, 1);
        Checks.fault("wake5;rest025", 10, 1);
    }

    private static void wordToldTwice() {
        Checks.sentence("2 a WORD told twice");
        Checks.fault("wake 5;wake 5", 7, 2);
        Checks.fault("wake 5;rest 5; rest 5", 15, 2);
        Checks.fault("wake 5;rest 6;carry 7;pay 8;wait 9;carry 7", 35, 2);
        Checks.fault("pay 5;pay", 6, 2);
        Checks.fault("pay 5;pay#", 6, 2);
        Checks.fault("pay 5;pays 5", 6, 0);
    }

    private static void howManyWereTold() {
        Checks.sentence("how many were told");
        good("", 0, WITHOUT);
        good("wake 24", 1, WITHOUT);
        good("wake 24;rest 8", 2, WITHOUT);
        good("wake 24;rest 8;carry 20", 3, WITHOUT);
        good("wake 24;rest 8;carry 20;pay 1", 4, WITHOUT);
        good("wake 24;rest 8;carry 20;pay 1;wait 0", 5, WITHOUT);
    }

    private static void thoseAheadStay() {
        Checks.sentence("-2 - its FAULT (then those ahead stay).");
        CourierDesk x = new CourierDesk();
        due("the least fault", Checks.rules(x, "#"), -3);
        Checks.inForce(x, "behind the first fault", WITHOUT);
        Checks.rules(x, "wake 1;rest 2;carry 3;pay 4;wait 5");
        due("a fault behind four good ones", Checks.rules(x, "wake 11;rest 12;carry 13;pay 14;wait 100"), -2 - 298);
        Checks.inForce(x, "behind a fault", 1, 2, 3, 4, 5);
        due("good", Checks.rules(x, "wait 6"), 1);
        Checks.inForce(x, "behind a good one", 24, 8, 20, 1, 6);
        due("the greatest fault", Checks.rules(x, "wake" + blanks(96)), -2 - 801);
        Checks.inForce(x, "behind the last fault", 24, 8, 20, 1, 6);
    }

    private static void rulesToldAnew() {
        Checks.sentence("is the RULES");
        CourierDesk x = new CourierDesk();
        Checks.rules(x, "wake 1;rest 2;carry 3;pay 4;wait 5");
        for (int k = 0; k < 5; k++) {
            due("rules", Checks.rules(x, WORDS[k] + " 7"), 1);
            int[] want = WITHOUT.clone();
            want[k] = 7;
            Checks.inForce(x, "of " + WORDS[k] + " alone", want);
        }
        due("rules of blanks", Checks.rules(x, " "), 0);
        Checks.inForce(x, "of blanks", WITHOUT);
    }
}
