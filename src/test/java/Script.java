import java.lang.reflect.InvocationTargetException;
import java.lang.reflect.Method;
import java.util.ArrayList;
import java.util.List;

/**
 * A run of calls on a new object, told as rows: "take 0 1 = 5" is a call and the answer that is due. "feed 'wake 5'"
 * has its bytes told as a text (zeros fill it up to twenty), and "rules 'wake 5'" feeds a text, cuts the tape behind it
 * and reads it. Each run is also played on SlowDesk, so that the slow model is held to answers worked out by hand.
 */
final class Script {
    private static final int MOST_CALLS = 512;
    private static final int FEED_BYTES = 20;

    private final String name;
    private final Object desk;
    private int calls;

    private Script(String name, Object desk) {
        this.name = name + " (" + desk.getClass().getName() + ")";
        this.desk = desk;
    }

    static void run(String name, String... rows) {
        new Script(name, new CourierDesk()).play(rows);
        new Script(name, new SlowDesk()).play(rows);
    }

    private void play(String... rows) {
        for (int i = 0; i < rows.length; i++) {
            int sign = rows[i].lastIndexOf(" = ");
            String call = rows[i].substring(0, sign);
            int want = Integer.parseInt(rows[i].substring(sign + 3));
            Checks.due(name + ", row " + (i + 1) + ": " + call, answer(call), want);
        }
        Checks.holds(name + " keeps to the calls of an object", calls <= MOST_CALLS);
    }

    private int answer(String row) {
        int quote = row.indexOf('\'');
        if (quote < 0) {
            return call(row.trim().split(" +"));
        }
        String text = row.substring(quote + 1, row.lastIndexOf('\''));
        if (row.startsWith("feed ")) {
            return feed(text);
        }
        for (int start = 0; start < text.length(); start += FEED_BYTES) {
            feed(text.substring(start, Math.min(text.length(), start + FEED_BYTES)));
        }
        Checks.due(name + ", end behind '" + text + "'", invoke("end", text.length()), text.length());
        return invoke("rules");
    }

    private int feed(String text) {
        int[] n = new int[FEED_BYTES / 4];
        for (int i = 0; i < FEED_BYTES; i++) {
            n[i / 4] = n[i / 4] << 8 | (i < text.length() ? text.charAt(i) : 0);
        }
        return invoke("feed", n);
    }

    private int call(String... words) {
        int[] numbers = new int[words.length - 1];
        for (int i = 0; i < numbers.length; i++) {
            numbers[i] = Integer.parseInt(words[i + 1]);
        }
        return invoke(words[0], numbers);
    }

    private int invoke(String method, int... numbers) {
        calls++;
        return invoke(desk, method, numbers);
    }

    /** The answer of a method that is told by its name. */
    static int invoke(Object desk, String method, int... numbers) {
        Class<?>[] types = new Class<?>[numbers.length];
        List<Object> arguments = new ArrayList<>();
        for (int i = 0; i < numbers.length; i++) {
            types[i] = int.class;
            arguments.add(numbers[i]);
        }
        try {
            Method called = desk.getClass().getDeclaredMethod(method, types);
            return (Integer) called.invoke(desk, arguments.toArray());
        } catch (NoSuchMethodException | IllegalAccessException | InvocationTargetException fault) {
            throw new IllegalStateException("a call of " + method + " with " + arguments, fault);
        }
    }
}
