import java.util.Arrays;

/** A desk of couriers, their rides and the bags that go with them; the document is ../shared/DOC.md. */
public final class CourierDesk {
    public static final int NONE = -1;

    private static final int TOWNS = 8;
    private static final int ALL_TOWNS = 255;
    private static final int HOURS = 1000;
    /** Later than every hour, so that a minimum over hours needs no case of its own. */
    private static final int NEVER = HOURS;

    private static final int MOST_RIDES = 60;
    private static final int LONGEST_RIDE = 99;
    private static final int MOST_SPELLS = 20;
    private static final int MOST_BYTES = 100;
    private static final int FEED_BYTES = 20;

    private static final int MOST_COURIERS = 6;
    private static final int MOST_TAKEN = 12;
    private static final int SLOTS = MOST_COURIERS * MOST_TAKEN;

    private static final int MOST_BAGS = 12;
    private static final int HEAVIEST = 50;
    private static final int HIGHEST_RANK = 9;
    private static final int DESK = 100;
    /** A way of the fewest legs is in no town twice, so it has a leg less than there are towns. */
    private static final int MOST_LEGS = TOWNS - 1;
    private static final int MOST_SEALS = 1 + 2 * MOST_LEGS;

    private static final int WAKE = 0;
    private static final int REST = 1;
    private static final int CARRY = 2;
    private static final int PAY = 3;
    private static final int WAIT = 4;
    private static final int RULE_WORDS = 5;
    private static final int[] LEAST = {1, 1, 1, 0, 0};
    private static final int[] MOST = {99, 24, 99, 99, 99};
    private static final int[] WITHOUT = {24, 8, 20, 1, 0};

    private static final int CANT_STAND = 0;
    private static final int WRONG_NUMBER = 1;
    private static final int TOLD_TWICE = 2;

    private final Tape tape;
    private final int[] inForce;
    private final RulesReader reader;
    private final Timetable timetable;
    private final Crew crew;
    private final Bags bags;
    private final Planner planner;
    private final Scout scout;

    public CourierDesk() {
        tape = new Tape();
        inForce = WITHOUT.clone();
        reader = new RulesReader(tape);
        timetable = new Timetable();
        crew = new Crew(timetable, inForce);
        bags = new Bags(timetable);
        planner = new Planner(timetable, crew, bags, inForce);
        scout = new Scout(timetable, inForce);
    }

    public int ride(int from, int leaves, int to, int comes) {
        if (!isTown(from) || !isTown(to) || from == to) {
            return NONE;
        }
        if (!isHour(leaves) || !isHour(comes)) {
            return NONE;
        }
        int hours = comes - leaves;
        if (hours < 1 || hours > LONGEST_RIDE) {
            return NONE;
        }
        return timetable.addRide(from, leaves, to, comes);
    }

    public int shut(int town, int from, int to) {
        if (!isTown(town) || !isHour(from) || !isHour(to) || from > to) {
            return NONE;
        }
        return timetable.addSpell(town, from, to);
    }

    public int feed(int a, int b, int c, int d, int e) {
        if (tape.size + FEED_BYTES > MOST_BYTES) {
            return NONE;
        }
        tape.append(a);
        tape.append(b);
        tape.append(c);
        tape.append(d);
        tape.append(e);
        return tape.size;
    }

    public int end(int n) {
        if (n < 0 || n > tape.size) {
            return NONE;
        }
        tape.size = n;
        return n;
    }

    public int rules() {
        int answer = reader.readText();
        if (answer >= 0) {
            System.arraycopy(reader.values, 0, inForce, 0, RULE_WORDS);
        }
        tape.size = 0;
        return answer;
    }

    public int courier(int town, int hour) {
        if (!isTown(town) || !isHour(hour)) {
            return NONE;
        }
        return crew.addCourier(town, hour);
    }

    public int take(int courier, int ride) {
        return crew.tryRide(courier, ride);
    }

    public int ill(int courier, int hour) {
        if (!crew.has(courier) || !isHour(hour)) {
            return NONE;
        }
        return crew.dropFrom(courier, hour);
    }

    public int taken(int courier, int i) {
        int slot = crew.slotOf(courier, i);
        return slot == NONE ? NONE : crew.rideIn[slot];
    }

    public int awake(int courier, int i) {
        int slot = crew.slotOf(courier, i);
        return slot == NONE ? NONE : timetable.comes[crew.rideIn[slot]] - crew.freshIn[slot];
    }

    public int pay(int courier) {
        return crew.has(courier) ? crew.payOf(courier) : NONE;
    }

    public int bag(int from, int hour, int to, int weight, int rank, int due) {
        if (!isTown(from) || !isTown(to) || from == to) {
            return NONE;
        }
        if (!isHour(hour) || !isHour(due)) {
            return NONE;
        }
        if (weight < 1 || weight > HEAVIEST || rank < 0 || rank > HIGHEST_RANK) {
            return NONE;
        }
        return bags.addBag(from, hour, to, weight, rank, due);
    }

    public int layOut() {
        return planner.layAll();
    }

    public int laid(int bag, int what) {
        if (!bags.has(bag)) {
            return NONE;
        }
        switch (what) {
            case 0:
                return bags.comesAt[bag];
            case 1:
                return bags.hoursLate(bag);
            case 2:
                return bags.legCount[bag];
            case 3:
                return bags.sealCount[bag];
            default:
                return NONE;
        }
    }

    public int leg(int bag, int i, int what) {
        if (!bags.has(bag) || i < 0 || i >= bags.legCount[bag]) {
            return NONE;
        }
        int place = bag * MOST_LEGS + i;
        switch (what) {
            case 0:
                return bags.legSlot[place] / MOST_TAKEN;
            case 1:
                return bags.legRide[place];
            default:
                return NONE;
        }
    }

    public int hand(int bag, int hour) {
        if (!bags.has(bag) || !isHour(hour)) {
            return NONE;
        }
        return bags.holderAt(bag, hour);
    }

    public int seal(int bag, int i, int what) {
        if (!bags.has(bag) || i < 0 || i >= bags.sealCount[bag]) {
            return NONE;
        }
        int place = bag * MOST_SEALS + i;
        switch (what) {
            case 0:
                return bags.sealHour[place];
            case 1:
                return bags.sealHolder[place];
            default:
                return NONE;
        }
    }

    public int load(int courier, int i) {
        int slot = crew.slotOf(courier, i);
        return slot == NONE ? NONE : crew.loadIn[slot];
    }

    public int soonest(int town, int hour, int to) {
        if (!isTown(town) || !isHour(hour) || !isTown(to)) {
            return NONE;
        }
        scout.explore(town, hour);
        int soonest = scout.soonestIn[to];
        return soonest == NEVER ? NONE : soonest;
    }

    public int everywhere(int town, int hour, int towns) {
        if (!isTown(town) || !isHour(hour) || towns < 1 || towns > ALL_TOWNS) {
            return NONE;
        }
        scout.explore(town, hour);
        int latest = 0;
        for (int t = 0; t < TOWNS; t++) {
            if ((towns >> t & 1) == 1) {
                latest = Math.max(latest, scout.soonestIn[t]);
            }
        }
        return latest == NEVER ? NONE : latest;
    }

    public int count(int what) {
        switch (what) {
            case 0:
                return timetable.rides;
            case 1:
                return crew.couriers;
            case 2:
                return bags.size;
            case 3:
                return timetable.spells;
            case 4:
                return tape.size;
            default:
                return what < 20 ? ruleInForce(what - 10) : takenCount(what - 20);
        }
    }

    private int ruleInForce(int rule) {
        return rule >= 0 && rule < RULE_WORDS ? inForce[rule] : NONE;
    }

    private int takenCount(int courier) {
        return crew.has(courier) ? crew.takenBy[courier] : NONE;
    }

    private static boolean isTown(int town) {
        return town >= 0 && town < TOWNS;
    }

    private static boolean isHour(int hour) {
        return hour >= 0 && hour < HOURS;
    }

    /** The bytes of which the next text of rules is made. */
    private static final class Tape {
        final int[] bytes = new int[MOST_BYTES];
        int size;

        void append(int number) {
            for (int shift = 24; shift >= 0 && size < MOST_BYTES; shift -= 8) {
                bytes[size] = number >> shift & 255;
                size++;
            }
        }

        /** NONE behind the last byte: it is no byte that can stand anywhere, so the end needs no case of its own. */
        int byteAt(int place) {
            return place >= 0 && place < size ? bytes[place] : NONE;
        }

        int skipBlanks(int place) {
            int next = place;
            while (next < size && byteAt(next) == ' ') {
                next++;
            }
            return next;
        }

        int skipLetters(int place) {
            int next = place;
            while (next < size && byteAt(next) >= 'a' && byteAt(next) <= 'z') {
                next++;
            }
            return next;
        }

        int skipDigits(int place) {
            int next = place;
            while (next < size && byteAt(next) >= '0' && byteAt(next) <= '9') {
                next++;
            }
            return next;
        }

        boolean holds(String word, int place, int behind) {
            if (behind - place != word.length()) {
                return false;
            }
            for (int i = 0; i < word.length(); i++) {
                if (byteAt(place + i) != word.charAt(i)) {
                    return false;
                }
            }
            return true;
        }
    }

    /** Reads the tape as rules into rows of its own, so that a fault leaves the rules in force as they were. */
    private static final class RulesReader {
        final Tape tape;
        final int[] values = new int[RULE_WORDS];
        final boolean[] told = new boolean[RULE_WORDS];
        int at;

        RulesReader(Tape tape) {
            this.tape = tape;
        }

        /** How many rules were told, or -2 less the fault. */
        int readText() {
            System.arraycopy(WITHOUT, 0, values, 0, RULE_WORDS);
            for (int rule = 0; rule < RULE_WORDS; rule++) {
                told[rule] = false;
            }
            at = tape.skipBlanks(0);
            if (at >= tape.size) {
                return 0;
            }
            // One round more than there are words: the last round can only find a word told twice.
            for (int count = 1; count <= RULE_WORDS + 1; count++) {
                int refusal = readRule();
                if (refusal != 0) {
                    return refusal;
                }
                if (at >= tape.size) {
                    return count;
                }
                if (tape.byteAt(at) != ';') {
                    return refuse(at, CANT_STAND);
                }
                at = tape.skipBlanks(at + 1);
            }
            return refuse(at, CANT_STAND);
        }

        /** 0 with the place moved behind the rule and its blanks, or -2 less the fault. */
        int readRule() {
            int behindWord = tape.skipLetters(at);
            int rule = ruleNamed(at, behindWord);
            if (rule == NONE) {
                return refuse(at, CANT_STAND);
            }
            if (told[rule]) {
                return refuse(at, TOLD_TWICE);
            }
            int number = tape.skipBlanks(behindWord);
            int behindNumber = tape.skipDigits(number);
            if (behindNumber == number) {
                return refuse(number, CANT_STAND);
            }
            int value = numberIn(number, behindNumber);
            if (value < LEAST[rule] || value > MOST[rule]) {
                return refuse(number, WRONG_NUMBER);
            }
            told[rule] = true;
            values[rule] = value;
            at = tape.skipBlanks(behindNumber);
            return 0;
        }

        int ruleNamed(int place, int behind) {
            for (int rule = 0; rule < RULE_WORDS; rule++) {
                if (tape.holds(wordOf(rule), place, behind)) {
                    return rule;
                }
            }
            return NONE;
        }

        /** NONE, which no rule allows, for more digits than a number has. */
        int numberIn(int place, int behind) {
            if (behind - place > 2) {
                return NONE;
            }
            int value = 0;
            for (int i = place; i < behind; i++) {
                value = value * 10 + tape.byteAt(i) - '0';
            }
            return value;
        }

        static String wordOf(int rule) {
            switch (rule) {
                case WAKE:
                    return "wake";
                case REST:
                    return "rest";
                case CARRY:
                    return "carry";
                case PAY:
                    return "pay";
                default:
                    return "wait";
            }
        }

        static int refuse(int place, int kind) {
            int fault = 1 + 8 * place + kind;
            return -2 - fault;
        }
    }

    /** The rides, and the spells in which towns are shut. */
    private static final class Timetable {
        final int[] from = new int[MOST_RIDES];
        final int[] leaves = new int[MOST_RIDES];
        final int[] to = new int[MOST_RIDES];
        final int[] comes = new int[MOST_RIDES];
        final boolean[] goes = new boolean[MOST_RIDES];
        /** Ride numbers by the hour of leaving: a ride can only be taken behind rides that stand ahead of it here. */
        final int[] byLeaving = new int[MOST_RIDES];
        int rides;
        final int[] spellTown = new int[MOST_SPELLS];
        final int[] spellFrom = new int[MOST_SPELLS];
        final int[] spellTo = new int[MOST_SPELLS];
        int spells;

        boolean has(int ride) {
            return ride >= 0 && ride < rides;
        }

        int addRide(int start, int leaving, int goal, int coming) {
            if (rides >= MOST_RIDES) {
                return NONE;
            }
            int ride = rides;
            from[ride] = start;
            leaves[ride] = leaving;
            to[ride] = goal;
            comes[ride] = coming;
            goes[ride] = !isShut(start, leaving) && !isShut(goal, coming);
            int place = ride;
            while (place > 0 && leaves[byLeaving[place - 1]] > leaving) {
                byLeaving[place] = byLeaving[place - 1];
                place--;
            }
            byLeaving[place] = ride;
            rides++;
            return ride;
        }

        int addSpell(int town, int first, int last) {
            if (spells >= MOST_SPELLS) {
                return NONE;
            }
            spellTown[spells] = town;
            spellFrom[spells] = first;
            spellTo[spells] = last;
            spells++;
            for (int ride = 0; ride < rides; ride++) {
                goes[ride] = !isShut(from[ride], leaves[ride]) && !isShut(to[ride], comes[ride]);
            }
            return spells;
        }

        boolean isShut(int town, int hour) {
            for (int i = 0; i < spells; i++) {
                if (spellTown[i] == town && spellFrom[i] <= hour && hour <= spellTo[i]) {
                    return true;
                }
            }
            return false;
        }
    }

    /** The couriers; slot 12 * c + i is ride i that courier c has taken, so slots stand in the order of the legs. */
    private static final class Crew {
        final Timetable timetable;
        final int[] rules;
        final int[] home = new int[MOST_COURIERS];
        final int[] readyAt = new int[MOST_COURIERS];
        final int[] takenBy = new int[MOST_COURIERS];
        int couriers;
        final int[] rideIn = new int[SLOTS];
        /** The hour at which he was fresh last: kept, as rules told later don't change it. */
        final int[] freshIn = new int[SLOTS];
        final int[] loadIn = new int[SLOTS];

        Crew(Timetable timetable, int[] rules) {
            this.timetable = timetable;
            this.rules = rules;
        }

        boolean has(int courier) {
            return courier >= 0 && courier < couriers;
        }

        int slotOf(int courier, int i) {
            if (!has(courier) || i < 0 || i >= takenBy[courier]) {
                return NONE;
            }
            return courier * MOST_TAKEN + i;
        }

        int addCourier(int town, int hour) {
            if (couriers >= MOST_COURIERS) {
                return NONE;
            }
            home[couriers] = town;
            readyAt[couriers] = hour;
            takenBy[couriers] = 0;
            couriers++;
            return couriers - 1;
        }

        int tryRide(int courier, int ride) {
            if (!has(courier) || !timetable.has(ride) || takenBy[courier] >= MOST_TAKEN) {
                return 1;
            }
            int last = slotOf(courier, takenBy[courier] - 1);
            int town = last == NONE ? home[courier] : timetable.to[rideIn[last]];
            if (timetable.from[ride] != town) {
                return 2;
            }
            int hour = last == NONE ? readyAt[courier] : timetable.comes[rideIn[last]];
            if (timetable.leaves[ride] < hour) {
                return 3;
            }
            if (!timetable.goes[ride]) {
                return 4;
            }
            boolean fresh = last == NONE || timetable.leaves[ride] - hour >= rules[REST];
            int freshAt = fresh ? timetable.leaves[ride] : freshIn[last];
            if (timetable.comes[ride] - freshAt > rules[WAKE]) {
                return 5;
            }
            addTaken(courier, ride, freshAt);
            return 0;
        }

        void addTaken(int courier, int ride, int freshAt) {
            int slot = courier * MOST_TAKEN + takenBy[courier];
            rideIn[slot] = ride;
            freshIn[slot] = freshAt;
            loadIn[slot] = 0;
            takenBy[courier]++;
        }

        /** Rides taken leave one behind the other, so those to drop are the last ones. */
        int dropFrom(int courier, int hour) {
            int kept = takenBy[courier];
            while (kept > 0 && timetable.leaves[rideIn[courier * MOST_TAKEN + kept - 1]] >= hour) {
                kept--;
            }
            int dropped = takenBy[courier] - kept;
            takenBy[courier] = kept;
            return dropped;
        }

        int payOf(int courier) {
            int sum = 0;
            for (int i = 0; i < takenBy[courier]; i++) {
                int ride = rideIn[courier * MOST_TAKEN + i];
                sum += rules[PAY] * (timetable.comes[ride] - timetable.leaves[ride]);
                if (i > 0) {
                    int before = rideIn[courier * MOST_TAKEN + i - 1];
                    sum += rules[WAIT] * (timetable.leaves[ride] - timetable.comes[before]);
                }
            }
            return sum;
        }
    }

    /** The bags, each with its way and its seals as they were laid out last. */
    private static final class Bags {
        final Timetable timetable;
        final int[] from = new int[MOST_BAGS];
        final int[] hour = new int[MOST_BAGS];
        final int[] to = new int[MOST_BAGS];
        final int[] weight = new int[MOST_BAGS];
        final int[] rank = new int[MOST_BAGS];
        final int[] due = new int[MOST_BAGS];
        int size;
        final int[] comesAt = new int[MOST_BAGS];
        final int[] legCount = new int[MOST_BAGS];
        final int[] legSlot = new int[MOST_BAGS * MOST_LEGS];
        /** Kept beside the slot: he may be ill and take another ride in that slot afterwards. */
        final int[] legRide = new int[MOST_BAGS * MOST_LEGS];
        final int[] sealCount = new int[MOST_BAGS];
        final int[] sealHour = new int[MOST_BAGS * MOST_SEALS];
        final int[] sealHolder = new int[MOST_BAGS * MOST_SEALS];

        Bags(Timetable timetable) {
            this.timetable = timetable;
        }

        boolean has(int bag) {
            return bag >= 0 && bag < size;
        }

        int addBag(int start, int there, int goal, int heavy, int ranked, int dueAt) {
            if (size >= MOST_BAGS) {
                return NONE;
            }
            from[size] = start;
            hour[size] = there;
            to[size] = goal;
            weight[size] = heavy;
            rank[size] = ranked;
            due[size] = dueAt;
            clearWay(size);
            size++;
            return size - 1;
        }

        void clearWay(int bag) {
            comesAt[bag] = NONE;
            legCount[bag] = 0;
            sealCount[bag] = 0;
        }

        int hoursLate(int bag) {
            return comesAt[bag] == NONE ? NONE : Math.max(0, comesAt[bag] - due[bag]);
        }

        void addLeg(int bag, int slot, int ride) {
            if (legCount[bag] >= MOST_LEGS) {
                return;
            }
            int place = bag * MOST_LEGS + legCount[bag];
            legSlot[place] = slot;
            legRide[place] = ride;
            legCount[bag]++;
        }

        void addSeal(int bag, int when, int holder) {
            if (sealCount[bag] >= MOST_SEALS) {
                return;
            }
            int place = bag * MOST_SEALS + sealCount[bag];
            sealHour[place] = when;
            sealHolder[place] = holder;
            sealCount[bag]++;
        }

        /**
         * The first desk has its seal without a way, too, as the bag stays with it; and each desk has its seal even
         * if the bag leaves in the hour in which it comes there.
         */
        void sealWay(int bag) {
            addSeal(bag, hour[bag], DESK + from[bag]);
            boolean kept = false;
            for (int i = 0; i < legCount[bag]; i++) {
                int place = bag * MOST_LEGS + i;
                int ride = legRide[place];
                if (!kept) {
                    addSeal(bag, timetable.leaves[ride], legSlot[place] / MOST_TAKEN);
                }
                kept = i + 1 < legCount[bag] && isNextOfSame(legSlot[place], legSlot[place + 1]);
                if (!kept) {
                    addSeal(bag, timetable.comes[ride], DESK + timetable.to[ride]);
                }
            }
        }

        static boolean isNextOfSame(int slot, int next) {
            return next == slot + 1 && next / MOST_TAKEN == slot / MOST_TAKEN;
        }

        int holderAt(int bag, int when) {
            if (when < hour[bag]) {
                return NONE;
            }
            int holder = DESK + from[bag];
            for (int i = 0; i < sealCount[bag]; i++) {
                int place = bag * MOST_SEALS + i;
                if (sealHour[place] <= when) {
                    holder = sealHolder[place];
                }
            }
            return holder;
        }
    }

    /** Lays out the bags' ways over the legs. */
    private static final class Planner {
        final Timetable timetable;
        final Crew crew;
        final Bags bags;
        final int[] rules;
        /** The slots that are legs, by the hour of leaving: one pass along it finds the soonest hours. */
        final int[] legs = new int[SLOTS];
        int legCount;
        final int[] soonestIn = new int[TOWNS];
        /** How many legs there are, from this one on, to the bag's town at its soonest hour; 0: none leads there. */
        final int[] legsToGo = new int[SLOTS];

        Planner(Timetable timetable, Crew crew, Bags bags, int[] rules) {
            this.timetable = timetable;
            this.crew = crew;
            this.bags = bags;
            this.rules = rules;
        }

        int layAll() {
            gatherLegs();
            int lost = 0;
            for (int rank = HIGHEST_RANK; rank >= 0; rank--) {
                for (int bag = 0; bag < bags.size; bag++) {
                    if (bags.rank[bag] == rank && !layBag(bag)) {
                        lost++;
                    }
                }
            }
            return lost;
        }

        void gatherLegs() {
            legCount = 0;
            for (int courier = 0; courier < crew.couriers; courier++) {
                for (int i = 0; i < crew.takenBy[courier]; i++) {
                    int slot = courier * MOST_TAKEN + i;
                    crew.loadIn[slot] = 0;
                    if (timetable.goes[crew.rideIn[slot]]) {
                        insertLeg(slot);
                    }
                }
            }
        }

        void insertLeg(int slot) {
            int leaving = timetable.leaves[crew.rideIn[slot]];
            int place = legCount;
            while (place > 0 && timetable.leaves[crew.rideIn[legs[place - 1]]] > leaving) {
                legs[place] = legs[place - 1];
                place--;
            }
            legs[place] = slot;
            legCount++;
        }

        boolean layBag(int bag) {
            bags.clearWay(bag);
            int soonest = soonestFor(bag);
            boolean comes = soonest != NEVER;
            if (comes) {
                countLegsToGo(bag, soonest);
                bags.comesAt[bag] = soonest;
                chooseWay(bag);
            }
            bags.sealWay(bag);
            return comes;
        }

        boolean hasRoom(int slot, int bag) {
            return crew.loadIn[slot] + bags.weight[bag] <= rules[CARRY];
        }

        int soonestFor(int bag) {
            Arrays.fill(soonestIn, NEVER);
            soonestIn[bags.from[bag]] = bags.hour[bag];
            for (int k = 0; k < legCount; k++) {
                int ride = crew.rideIn[legs[k]];
                int goal = timetable.to[ride];
                boolean caught = soonestIn[timetable.from[ride]] <= timetable.leaves[ride];
                if (caught && hasRoom(legs[k], bag)) {
                    soonestIn[goal] = Math.min(soonestIn[goal], timetable.comes[ride]);
                }
            }
            return soonestIn[bags.to[bag]];
        }

        /** From the last leg to the first, as what lies behind a leg must be known ahead of it. */
        void countLegsToGo(int bag, int soonest) {
            Arrays.fill(legsToGo, 0);
            for (int k = legCount - 1; k >= 0; k--) {
                int ride = crew.rideIn[legs[k]];
                int coming = timetable.comes[ride];
                if (coming > soonest || !hasRoom(legs[k], bag)) {
                    continue;
                }
                if (timetable.to[ride] == bags.to[bag]) {
                    legsToGo[legs[k]] = coming == soonest ? 1 : 0;
                } else {
                    int behind = fewestFrom(timetable.to[ride], coming, k + 1);
                    legsToGo[legs[k]] = behind == 0 ? 0 : behind + 1;
                }
            }
        }

        /** The fewest legs to go from a town and hour, by the legs from a place in their order on; 0: none. */
        int fewestFrom(int town, int hour, int place) {
            int fewest = 0;
            for (int k = place; k < legCount; k++) {
                int toGo = legsToGo[legs[k]];
                if (toGo > 0 && (fewest == 0 || toGo < fewest) && canLeave(legs[k], town, hour)) {
                    fewest = toGo;
                }
            }
            return fewest;
        }

        boolean canLeave(int slot, int town, int hour) {
            int ride = crew.rideIn[slot];
            return timetable.from[ride] == town && timetable.leaves[ride] >= hour;
        }

        void chooseWay(int bag) {
            int town = bags.from[bag];
            int hour = bags.hour[bag];
            for (int toGo = fewestFrom(town, hour, 0); toGo > 0; toGo--) {
                int slot = firstLeg(town, hour, toGo);
                if (slot == NONE) {
                    return;
                }
                int ride = crew.rideIn[slot];
                bags.addLeg(bag, slot, ride);
                crew.loadIn[slot] += bags.weight[bag];
                town = timetable.to[ride];
                hour = timetable.comes[ride];
            }
        }

        int firstLeg(int town, int hour, int toGo) {
            for (int slot = 0; slot < SLOTS; slot++) {
                if (legsToGo[slot] == toGo && canLeave(slot, town, hour)) {
                    return slot;
                }
            }
            return NONE;
        }
    }

    /**
     * Finds the soonest hours in all towns. Who is in a town twice could have stayed there, at least as rested, so
     * the rides that are needed are fewer than the towns, and the limit of twelve never bites.
     */
    private static final class Scout {
        final Timetable timetable;
        final int[] rules;
        final int[] soonestIn = new int[TOWNS];
        /** The latest hour of being fresh with which a ride can be taken: the later, the more rides may follow. */
        final int[] freshIn = new int[MOST_RIDES];

        Scout(Timetable timetable, int[] rules) {
            this.timetable = timetable;
            this.rules = rules;
        }

        void explore(int town, int hour) {
            Arrays.fill(soonestIn, NEVER);
            soonestIn[town] = hour;
            for (int k = 0; k < timetable.rides; k++) {
                int ride = timetable.byLeaving[k];
                int coming = timetable.comes[ride];
                int fresh = timetable.goes[ride] ? latestFresh(k, town, hour) : NONE;
                if (fresh == NONE || coming - fresh > rules[WAKE]) {
                    freshIn[ride] = NONE;
                } else {
                    freshIn[ride] = fresh;
                    int goal = timetable.to[ride];
                    soonestIn[goal] = Math.min(soonestIn[goal], coming);
                }
            }
        }

        int latestFresh(int place, int town, int hour) {
            int ride = timetable.byLeaving[place];
            int leaving = timetable.leaves[ride];
            if (timetable.from[ride] == town && leaving >= hour) {
                return leaving;
            }
            int latest = NONE;
            for (int k = 0; k < place; k++) {
                int before = timetable.byLeaving[k];
                int waits = leaving - timetable.comes[before];
                if (freshIn[before] != NONE && timetable.to[before] == timetable.from[ride] && waits >= 0) {
                    latest = Math.max(latest, waits >= rules[REST] ? leaving : freshIn[before]);
                }
            }
            return latest;
        }
    }
}
