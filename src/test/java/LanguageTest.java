import java.lang.reflect.Field;
import java.lang.reflect.Method;
import java.lang.reflect.Modifier;
import java.util.ArrayList;
import java.util.Arrays;
import java.util.List;
import java.util.Set;
import java.util.TreeSet;
import java.util.regex.Pattern;

/**
 * LANGUAGE.md rule by rule, as far as words and reflection show it. That no call throws by itself
 * (rule 7) all other tests see, by Check.outcome.
 */
public final class LanguageTest {
    private static final Set<String> LIBRARY_TYPES = Set.of("ArrayList", "Integer", "Math", "System",
        "IllegalStateException", "IllegalArgumentException", "IndexOutOfBoundsException");
    private static final Set<String> LIST_CALLS = Set.of("add", "get", "size", "isEmpty", "clear");
    private static final Set<String> STATIC_CALLS = Set.of("Integer.bitCount", "Integer.numberOfTrailingZeros",
        "Math.max", "Math.min", "System.arraycopy");

    public static void main(String[] args) {
        Sentences.check(LanguageTest.class, "rule");
    }

    static void rule01_noPackageAndOneImport() {
        none("\\bpackage\\b");
        only("imports", Source.all("\\bimport ([^;]+);"), Set.of("java.util.ArrayList"));
    }

    static void rule01_oneClassOutsideAndItIsPublicAndFinal() {
        Check.same("public final", ColourParts.class.getModifiers(), Modifier.PUBLIC | Modifier.FINAL);
        Check.same("classes", count("\\bclass\\b"), 1 + inside().size());
    }

    static void rule01_noPrivateMethodBearsTheNameOfAPublicOne() {
        Set<String> face = new TreeSet<>();
        for (Method m : ColourParts.class.getDeclaredMethods()) {
            if (Modifier.isPublic(m.getModifiers())) {
                face.add(m.getName());
            }
        }
        for (Class<?> c : classes()) {
            for (Method m : c.getDeclaredMethods()) {
                if (Modifier.isPrivate(m.getModifiers())) {
                    Check.same(m + " has a name of the face", face.contains(m.getName()), false);
                }
            }
        }
    }

    static void rule01_allButTheFaceIsPrivate() {
        for (Method m : ColourParts.class.getDeclaredMethods()) {
            Check.same(m + " is public or private", (m.getModifiers() & (Modifier.PUBLIC | Modifier.PRIVATE)) != 0, true);
        }
    }

    static void rule02_classesInsideAreStaticAndNotPublic() {
        for (Class<?> c : inside()) {
            Check.same(c + " is static", Modifier.isStatic(c.getModifiers()), true);
            Check.same(c + " is not public or protected", (c.getModifiers() & (Modifier.PUBLIC | Modifier.PROTECTED)) == 0, true);
            Check.same(c + " has none inside", c.getDeclaredClasses().length, 0);
        }
    }

    static void rule02_noLambdaAndNoMethodReference() {
        none("->");
        none("::");
    }

    static void rule03_typesOfTheListAlone() {
        Set<String> due = new TreeSet<>(LIBRARY_TYPES);
        for (Class<?> c : classes()) {
            due.add(c.getSimpleName());
        }
        only("types", Source.all("\\b([A-Z]\\w*[a-z]\\w*)\\b"), due);
        none("\\b(float|double|short|byte|var)\\b");
    }

    static void rule03_arraysOfOneDimension() {
        none("\\]\\s*\\[");
    }

    static void rule04_theLibraryOfTheListAlone() {
        only("static calls", Source.all("\\b((?:Integer|Math|System)\\.\\w+)"), STATIC_CALLS);
        Set<String> due = new TreeSet<>(LIST_CALLS);
        for (String call : STATIC_CALLS) {
            due.add(call.substring(call.indexOf('.') + 1));
        }
        for (Class<?> c : classes()) {
            for (Method m : c.getDeclaredMethods()) {
                due.add(m.getName());
            }
        }
        only("calls", Source.all("\\.(\\w+)\\("), due);
        only("what is made of the library", Source.all("\\bnew (ArrayList<\\w+>)"), Set.of("ArrayList<Shape>", "ArrayList<Box>", "ArrayList<Piece>"));
    }

    static void rule05_staticFieldsAreConstants() {
        for (Class<?> c : classes()) {
            for (Field f : c.getDeclaredFields()) {
                if (Modifier.isStatic(f.getModifiers())) {
                    Check.same(f + " is final", Modifier.isFinal(f.getModifiers()), true);
                    Check.same(f + " is a number", f.getType() == int.class || f.getType() == long.class, true);
                }
            }
        }
        none("\\bstatic\\s*\\{");
    }

    static void rule06_throwsWithAWrittenText() {
        Check.same("throws of another kind",
            count("\\bthrow\\b") - count("\\bthrow new (IllegalState|IllegalArgument|IndexOutOfBounds)Exception\\(\"\"\\);"), 0);
        none("\\b(try|catch|finally|synchronized|assert|instanceof)\\b");
        none("\\b(equals|hashCode|toString|getMessage)\\b");
    }

    static void rule06_noThrowInAConstructor() {
        int met = 0;
        for (Source.Block block : Source.methods()) {
            String name = block.header().substring(0, block.header().indexOf('(')).replaceAll(".* ", "");
            if (Character.isUpperCase(name.charAt(0))) {
                met++;
                Check.same("a throw in " + block.header(), Pattern.compile("\\bthrow\\b").matcher(block.body()).find(), false);
            }
        }
        Check.same("constructors are met", met > 1, true);
    }

    static void rule06_noCastsAndNoObjectsCompared() {
        none("\\((int|long|byte|char|short|boolean)\\)");
        only("what is held against null", Source.all("(\\w+) [!=]= null"), Set.of("kept"));
    }

    static void rule09_everyLoopHasABound() {
        none("\\b(while|do)\\b");
        Check.same("loops without a comparison", count("\\bfor \\(") - count("\\bfor \\([^;]*; [^;]*[<>][^;]*; [^;)]+\\)"), 0);
    }

    static void rule10_noTextsJoined() {
        none("\"\\s*\\+");
        none("\\+\\s*\"");
    }

    static void rule10_flagsAreJoinedByAndAndOrAlone() {
        Set<String> flags = Source.all("\\bboolean (\\w+)\\b(?!\\()");
        Check.same("some flags are met", flags.isEmpty(), false);
        for (String flag : flags) {
            none("\\b" + flag + " [|&^]=");
            none("\\b" + flag + " [|&^] ");
            none(" [|&^] " + flag + "\\b");
        }
    }

    static void rule11_sevenParametersAtMost() {
        for (Class<?> c : classes()) {
            for (Method m : c.getDeclaredMethods()) {
                Check.same(m + " has seven parameters at most", m.getParameterCount() <= 7, true);
            }
        }
    }

    static void rule11_methodsAreShort() {
        List<Source.Block> all = Source.methods();
        Check.same("the methods are met", all.size() > 50, true);
        for (Source.Block block : all) {
            Check.same(block.header() + " is short", block.lines() <= 60, true);
        }
    }

    static void rule11_fewClassesAndFields() {
        Check.same("at most twelve classes", classes().size() <= 12, true);
        for (Class<?> c : classes()) {
            int own = 0;
            for (Field f : c.getDeclaredFields()) {
                own += Modifier.isStatic(f.getModifiers()) ? 0 : 1;
            }
            Check.same(c + " has at most twenty fields", own <= 20, true);
        }
    }

    static void rule12_rowsAreOfFixedLengths() {
        only("rows made", Source.all("\\bnew (?:int|long|boolean)\\[([^\\]]*)\\]"),
            Set.of("MOST_PIECES", "MOST_PIECES + 1", "MOST_SHAPES", "MOST_STITCHES", "MOST_COLOURS"));
    }

    static void rule13_theSameCallsGiveTheSameAnswers() {
        String[] answers = new String[Probe.values().length];
        for (int round = 0; round < 2; round++) {
            for (Probe probe : Probe.values()) {
                String got = probe.answers(Layout.bridge(), true);
                Check.sameText(probe.toString(), got, round == 0 ? got : answers[probe.ordinal()]);
                answers[probe.ordinal()] = got;
            }
        }
    }

    private static List<Class<?>> inside() {
        return Arrays.asList(ColourParts.class.getDeclaredClasses());
    }

    private static List<Class<?>> classes() {
        List<Class<?>> all = new ArrayList<>(inside());
        all.add(ColourParts.class);
        return all;
    }

    private static void none(String pattern) {
        Check.same("times that the code has " + pattern, count(pattern), 0);
    }

    private static long count(String pattern) {
        return Pattern.compile(pattern).matcher(Source.code()).results().count();
    }

    private static void only(String what, Set<String> got, Set<String> due) {
        Set<String> others = new TreeSet<>(got);
        others.removeAll(due);
        Check.sameText(what + " that are none such", others.toString(), "[]");
        Check.same(what + " are met", got.isEmpty(), false);
    }
}
