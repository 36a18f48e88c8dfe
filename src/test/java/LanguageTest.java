import java.io.IOException;
import java.lang.reflect.Constructor;
import java.lang.reflect.Field;
import java.lang.reflect.Method;
import java.lang.reflect.Modifier;
import java.nio.file.Files;
import java.nio.file.Path;
import java.util.Arrays;
import java.util.List;
import java.util.Set;
import java.util.TreeSet;

/** The public face of the document, and what LANGUAGE.md rules out as far as words and members show it. */
public final class LanguageTest {
    private static final List<String> FACE = List.of(
        "ride 4", "shut 3", "feed 5", "end 1", "rules 0", "courier 2", "take 2", "ill 2", "taken 2", "awake 2", "pay 1",
        "bag 6", "layOut 0", "laid 2", "leg 3", "hand 2", "seal 3", "load 2", "soonest 3", "everywhere 3", "count 1");
    private static final List<String> RULED_OUT = List.of(
        "throw", "throws", "try", "catch", "finally", "synchronized", "assert", "volatile", "native", "protected",
        "package", "Object", "Thread", "Random", "nanoTime", "currentTimeMillis", "hashCode", "toString");

    private LanguageTest() {
    }

    public static void main(String[] args) throws IOException {
        face();
        insides();
        words();
        Checks.close("LanguageTest");
    }

    private static void face() {
        Class<CourierDesk> desk = CourierDesk.class;
        Checks.holds("public and final", Modifier.isPublic(desk.getModifiers()) && Modifier.isFinal(desk.getModifiers()));
        Set<String> seen = new TreeSet<>();
        for (Method m : desk.getDeclaredMethods()) {
            if (Modifier.isPublic(m.getModifiers())) {
                seen.add(m.getName() + " " + m.getParameterCount());
                Checks.holds(m.getName() + " answers int", m.getReturnType() == int.class);
                Checks.holds(m.getName() + " is no static one", !Modifier.isStatic(m.getModifiers()));
                for (Class<?> p : m.getParameterTypes()) {
                    Checks.holds(m.getName() + " takes ints", p == int.class);
                }
            } else {
                Checks.holds(m.getName() + " is private", Modifier.isPrivate(m.getModifiers()));
            }
        }
        Checks.holds("the methods are " + seen, seen.equals(new TreeSet<>(FACE)));
        for (Field f : desk.getDeclaredFields()) {
            Checks.holds(f.getName() + " is private", f.getName().equals("NONE") || Modifier.isPrivate(f.getModifiers()));
        }
        Constructor<?>[] made = desk.getDeclaredConstructors();
        Checks.holds("one public constructor without parameters", made.length == 1
            && Modifier.isPublic(made[0].getModifiers()) && made[0].getParameterCount() == 0);
    }

    private static void insides() {
        Set<String> face = new TreeSet<>();
        FACE.forEach(each -> face.add(each.replaceFirst(" .*", "")));
        Class<?>[] inside = CourierDesk.class.getDeclaredClasses();
        Checks.holds("at most twelve classes", inside.length < 12);
        for (Class<?> c : inside) {
            Checks.holds(c.getName() + " is static", Modifier.isStatic(c.getModifiers()));
            Checks.holds(c.getName() + " has at most 20 fields", c.getDeclaredFields().length <= 20);
            for (Method m : c.getDeclaredMethods()) {
                Checks.holds(c.getName() + "." + m.getName() + " bears no public name", !face.contains(m.getName()));
                Checks.holds(m.getName() + " takes at most seven", m.getParameterCount() <= 7);
            }
        }
    }

    private static void words() throws IOException {
        String text = Files.readString(Path.of("src/main/java/CourierDesk.java"));
        String code = text.replaceAll("(?s)/\\*.*?\\*/", " ").replaceAll("//[^\n]*", " ").replaceAll("\"[^\"\n]*\"", " ");
        Set<String> used = new TreeSet<>(Arrays.asList(code.split("[^A-Za-z0-9_]+")));
        for (String word : RULED_OUT) {
            Checks.holds("'" + word + "' is not used", !used.contains(word));
        }
        Checks.holds("no lambda, no method reference", !code.contains("->") && !code.contains("::"));
    }
}
