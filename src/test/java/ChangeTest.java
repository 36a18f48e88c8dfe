import java.util.ArrayList;
import java.util.LinkedHashMap;
import java.util.List;
import java.util.Map;
import java.util.Set;

/**
 * What each call that changes something leaves as it was: all answers of an object are asked ahead of the call and
 * behind it, by groups, and only the groups that the document lets it change may answer otherwise. Each of these does,
 * so that the desk on which it is tried could show the change.
 */
public final class ChangeTest {
    private static final int MOST_CALLS = 512;
    private static final int CALLS_TO_MAKE = 60;
    private static final int[] HOURS = {0, 3, 5, 9, 10, 14, 16, 20, 30, 40, 999};

    private int calls;

    private ChangeTest() {
    }

    public static void main(String[] args) {
        change("ride 0 1 3 2 = 6", "rides", "soonest");
        change("ride 7 1 6 2 = 6", "rides");
        change("ride 0 1 0 2 = -1");
        change("shut 0 5 5 = 2", "spells", "soonest");
        change("shut 7 0 999 = 2", "spells");
        change("shut 7 1 0 = -1");
        change("feed 1 2 3 4 5 = 33", "tape");
        change("end 12 = 12", "tape");
        change("end 13 = 13");
        change("end 14 = -1");
        change("rules = 2", "tape", "rules", "pay", "soonest");
        change("courier 3 3 = 3", "couriers");
        change("courier 8 3 = -1");
        change("take 0 2 = 0", "taken", "awake", "pay", "load");
        change("take 2 5 = 0", "taken", "awake", "pay", "load");
        change("take 2 0 = 2");
        change("ill 0 12 = 1", "taken", "awake", "pay", "load");
        change("ill 1 0 = 1", "taken", "awake", "pay", "load");
        change("ill 2 0 = 0");
        change("ill 0 999 = 0");
        change("ill 0 1000 = -1");
        change("bag 0 4 1 1 9 50 = 4", "bags");
        change("bag 0 4 0 1 9 50 = -1");
        changeOf(busy(), "layOut = 2", "ways", "load");
        changeOf(laidOut(), "layOut = 2");
        Checks.close("ChangeTest");
    }

    /** Bags with and without a way, one that came when they had been laid out, a text on the tape, a courier at rest. */
    private static CourierDesk busy() {
        CourierDesk x = new CourierDesk();
        x.ride(0, 5, 1, 9);
        x.ride(1, 12, 2, 15);
        x.ride(2, 16, 3, 20);
        x.ride(1, 10, 3, 33);
        x.ride(3, 34, 0, 39);
        x.ride(4, 30, 5, 31);
        x.courier(0, 2);
        x.courier(1, 0);
        x.courier(4, 0);
        x.take(0, 0);
        x.take(0, 1);
        x.take(1, 3);
        x.shut(6, 31, 33);
        x.bag(0, 1, 3, 12, 4, 20);
        x.bag(0, 3, 2, 5, 2, 20);
        x.bag(4, 3, 2, 7, 3, 10);
        x.layOut();
        x.bag(0, 0, 2, 9, 8, 30);
        Checks.write(x, "wake 9;pay 12");
        return x;
    }

    private static CourierDesk laidOut() {
        CourierDesk x = busy();
        x.layOut();
        return x;
    }

    private static void change(String row, String... changed) {
        changeOf(busy(), row, changed);
        changeOf(laidOut(), row, changed);
    }

    private static void changeOf(CourierDesk x, String row, String... changed) {
        String told = row.substring(0, row.indexOf(" = "));
        int want = Integer.parseInt(row.substring(row.indexOf(" = ") + 3));
        String[] words = told.split(" ");
        int[] numbers = new int[words.length - 1];
        for (int i = 0; i < numbers.length; i++) {
            numbers[i] = Integer.parseInt(words[i + 1]);
        }
        ChangeTest asking = new ChangeTest();
        Map<String, List<Integer>> ahead = asking.answers(x);
        Checks.due(told, Script.invoke(x, words[0], numbers), want);
        Map<String, List<Integer>> behind = asking.answers(x);
        Checks.holds("the questions stay within the calls of an object", asking.calls + CALLS_TO_MAKE <= MOST_CALLS);
        for (String group : ahead.keySet()) {
            boolean may = Set.of(changed).contains(group);
            boolean same = ahead.get(group).equals(behind.get(group));
            Checks.holds(told + (may ? " changes " : " leaves ") + group + ": " + ahead.get(group) + ", behind it "
                + behind.get(group), same != may);
        }
        Checks.holds(told + " changes groups that there are", ahead.keySet().containsAll(Set.of(changed)));
    }

    /** Only bags and couriers of the busy desk are asked for, as a new one has answers of its own. */
    private Map<String, List<Integer>> answers(CourierDesk x) {
        Map<String, List<Integer>> all = new LinkedHashMap<>();
        String[] counts = {"rides", "couriers", "bags", "spells", "tape"};
        for (int what = 0; what < counts.length; what++) {
            all.put(counts[what], ask(x.count(what)));
        }
        all.put("rules", ask(x.count(10), x.count(11), x.count(12), x.count(13), x.count(14)));
        List<Integer> taken = ask();
        List<Integer> awake = ask();
        List<Integer> load = ask();
        for (int c = 0; c < 3; c++) {
            taken.addAll(ask(x.count(20 + c)));
            for (int i = 0; i < 4; i++) {
                taken.addAll(ask(x.taken(c, i)));
                awake.addAll(ask(x.awake(c, i)));
                load.addAll(ask(x.load(c, i)));
            }
        }
        all.put("taken", taken);
        all.put("awake", awake);
        all.put("load", load);
        all.put("pay", ask(x.pay(0), x.pay(1), x.pay(2)));
        List<Integer> ways = ask();
        for (int bag = 0; bag < 4; bag++) {
            ways.addAll(way(x, bag));
        }
        all.put("ways", ways);
        all.put("soonest", ask(x.soonest(0, 0, 1), x.soonest(0, 0, 2), x.soonest(0, 0, 3), x.soonest(0, 0, 0),
            x.everywhere(0, 0, 15), x.everywhere(4, 0, 48)));
        return all;
    }

    private List<Integer> way(CourierDesk x, int bag) {
        List<Integer> way = ask(x.laid(bag, 0), x.laid(bag, 1), x.laid(bag, 2), x.laid(bag, 3));
        for (int i = 0; i < 3; i++) {
            way.addAll(ask(x.leg(bag, i, 0), x.leg(bag, i, 1)));
            way.addAll(ask(x.seal(bag, i, 0), x.seal(bag, i, 1)));
        }
        for (int hour : HOURS) {
            way.addAll(ask(x.hand(bag, hour)));
        }
        return way;
    }

    private List<Integer> ask(int... answers) {
        List<Integer> list = new ArrayList<>();
        for (int answer : answers) {
            list.add(answer);
            calls++;
        }
        return list;
    }
}
