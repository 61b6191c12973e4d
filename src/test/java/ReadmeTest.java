import java.lang.reflect.InvocationTargetException;
import java.lang.reflect.Method;
import java.lang.reflect.Modifier;
import java.util.HashMap;
import java.util.Map;
import java.util.Set;
import java.util.TreeSet;
import java.util.regex.Matcher;
import java.util.regex.Pattern;

/** The README's example, line by line: each call answers what its comment begins with. */
public final class ReadmeTest {
    private static final Pattern CALL = Pattern.compile("(?:int (\\w+) = )?x\\.(\\w+)\\(([^)]*)\\);\\s*// (.*)");
    private static final Pattern MAKER = Pattern.compile("ColourParts x = new ColourParts\\((\\d+)\\);\\s*// .*");

    private static final Map<String, Long> names = new HashMap<>();
    private static final Set<String> called = new TreeSet<>();
    private static ColourParts x = null;

    public static void main(String[] args) {
        String readme = Source.text("README.md");
        names.put("ColourParts.NONE", (long) ColourParts.NONE);
        for (String line : Source.fenced(readme)) {
            if (!line.isBlank()) {
                goThrough(line);
            }
        }
        nothingIsLeftOut(readme);
        Check.end();
    }

    private static void goThrough(String line) {
        Check.begin(line);
        Matcher maker = MAKER.matcher(line);
        Matcher call = CALL.matcher(line);
        if (maker.matches()) {
            x = new ColourParts(Long.parseLong(maker.group(1)));
        } else if (call.matches()) {
            String got = answer(call.group(2), call.group(3).isEmpty() ? new String[0] : call.group(3).split(", "));
            called.add(call.group(2));
            if (call.group(1) != null) {
                names.put(call.group(1), Long.parseLong(got));
            }
            if (!got.equals("nothing")) {
                Check.sameText("it", got, call.group(4).replaceAll("[:,].*", ""));
            }
        } else {
            Check.same("it is a call with its answer", false, true);
        }
    }

    private static String answer(String name, String[] words) {
        Method m = method(name);
        Object[] values = new Object[words.length];
        for (int i = 0; i < words.length; i++) {
            values[i] = value(words[i], m.getParameterTypes()[i]);
        }
        try {
            Object got = m.invoke(x, values);
            return got == null ? "nothing" : got.toString();
        } catch (InvocationTargetException e) {
            return "throws " + e.getCause().getClass().getSimpleName();
        } catch (IllegalAccessException e) {
            return "is hidden";
        }
    }

    private static Object value(String word, Class<?> type) {
        if (type == boolean.class) {
            return word.equals("true");
        }
        long number = names.containsKey(word) ? names.get(word) : Long.parseLong(word);
        return type == int.class ? (Object) (int) number : (Object) number;
    }

    private static Method method(String name) {
        for (Method m : ColourParts.class.getDeclaredMethods()) {
            if (m.getName().equals(name) && Modifier.isPublic(m.getModifiers())) {
                return m;
            }
        }
        throw new IllegalStateException("the face has no " + name);
    }

    private static void nothingIsLeftOut(String readme) {
        Check.begin("README.md");
        for (Method m : ColourParts.class.getDeclaredMethods()) {
            if (Modifier.isPublic(m.getModifiers())) {
                Check.same("the example calls " + m.getName(), called.contains(m.getName()), true);
                Check.same("the table has " + m.getName(), readme.contains("\n| `" + m.getName() + "("), true);
            }
        }
        Check.same("the table has the constructor", readme.contains("\n| `ColourParts(distance)`"), true);
        Check.same("the table has NONE", readme.contains("\n| `NONE` | " + ColourParts.NONE + ":"), true);
    }
}
