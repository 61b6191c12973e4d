import java.lang.reflect.InvocationTargetException;
import java.lang.reflect.Method;
import java.lang.reflect.Modifier;
import java.util.Arrays;
import java.util.Comparator;

/** Runs every test of a class: one for each sentence of the document, named after it. */
final class Sentences {
    private Sentences() {
    }

    /** The tests are the methods whose names begin so; none is left out by forgetting to call it. */
    static void check(Class<?> tests, String beginning) {
        Method[] all = tests.getDeclaredMethods();
        Arrays.sort(all, Comparator.comparing(Method::getName));
        int met = 0;
        for (Method one : all) {
            if (one.getName().startsWith(beginning)) {
                met++;
                run(one);
            }
        }
        Check.begin(tests.getName());
        Check.same("some tests are there", met > 0, true);
        System.out.print(met + " sentences, ");
        Check.end();
    }

    private static void run(Method one) {
        Check.begin(one.getName());
        Check.same("is a test", Modifier.isStatic(one.getModifiers()) && one.getParameterCount() == 0, true);
        try {
            one.invoke(null);
        } catch (InvocationTargetException e) {
            Check.sameText("the test itself", "throws " + e.getCause(), "throws nothing");
        } catch (IllegalAccessException e) {
            Check.sameText("the test itself", "is hidden", "is visible");
        }
    }
}
