import java.io.IOException;
import java.lang.reflect.Constructor;
import java.lang.reflect.Field;
import java.lang.reflect.Method;
import java.lang.reflect.Modifier;
import java.nio.file.Files;
import java.nio.file.Path;
import java.util.Arrays;
import java.util.Set;
import java.util.TreeSet;
import java.util.regex.Matcher;
import java.util.regex.Pattern;

/** The face as the document tells it, and what of LANGUAGE.md can be seen from outside. */
public final class FaceTest {
    private static final String PLACE = " IndexOutOfBoundsException";
    private static final String STATE = " IllegalStateException";
    private static final String ARGUMENT = " IllegalArgumentException";

    private static final String[] FACE = {
        "int shape()" + STATE,
        "boolean corner(int,long,long)" + PLACE + STATE + ARGUMENT,
        "int near()" + STATE,
        "int run(int,long)" + STATE + ARGUMENT,
        "int colour(int)" + PLACE,
        "int ring(int)" + PLACE,
        "int length()",
        "boolean pre(int,int)" + PLACE + STATE + ARGUMENT,
        "boolean stitch(int,long,boolean)" + PLACE + STATE + ARGUMENT,
        "int stitches()",
        "boolean used(int,int)" + PLACE,
        "long balance(int,int)" + PLACE + ARGUMENT,
        "int pair(int,int)" + PLACE + STATE,
        "boolean closed()",
        "void clear()",
    };

    private static final String[] UNWANTED = {
        "\\bcatch\\b", "\\btry\\b", "\\bfinally\\b", "\\bsynchronized\\b", "\\bassert\\b", "\\bgetMessage\\b",
        "->", "::", "Exact\\s*\\(", "\\bSystem\\.(?!arraycopy)", "\\bRandom\\b", "\\bThread\\b", "\\bMap\\b",
        "\\binstanceof\\b", "\\bObject\\b", "\\bpackage\\s", "\\bfloat\\b", "\\bdouble\\b", "\\[\\]\\s*\\[\\]\\s*\\[",
    };

    public static void main(String[] args) throws IOException {
        face();
        wordForWord();
        nested();
        words(Files.readString(Path.of("src/main/java/ColourParts.java")));
        Check.end();
    }

    private static void face() {
        Set<String> due = new TreeSet<>(Arrays.asList(FACE));
        Set<String> got = new TreeSet<>();
        Set<String> hidden = new TreeSet<>();
        for (Method m : ColourParts.class.getDeclaredMethods()) {
            if (Modifier.isPrivate(m.getModifiers())) {
                hidden.add(m.getName());
            } else if (!m.isSynthetic()) {
                got.add(told(m));
            }
        }
        Check.sameText("the face", got.toString(), due.toString());
        for (String line : FACE) {
            String name = line.substring(line.indexOf(' ') + 1, line.indexOf('('));
            Check.same("a private method named " + name, hidden.contains(name), false);
        }
        Check.same("public final", ColourParts.class.getModifiers(), Modifier.PUBLIC | Modifier.FINAL);
        Constructor<?>[] makers = ColourParts.class.getDeclaredConstructors();
        Check.same("one constructor", makers.length, 1);
        Check.sameText("the constructor", makers[0].toString(), "public ColourParts(long)");
    }

    /** Each line of the document's face stands in the class; a method's with its body behind it. */
    private static void wordForWord() {
        String code = Source.plain(Source.whole());
        int met = 0;
        for (String line : Source.fenced(Source.text("../shared/DOC.md"))) {
            String word = Source.plain(line);
            boolean isMethod = word.contains("(");
            met += isMethod ? 1 : 0;
            String due = isMethod ? word.replace(";", " {") : word;
            Check.same("the class has: " + due, code.contains(due), true);
        }
        Check.same("the constructor and all methods are met", met, FACE.length + 1);
    }

    private static String told(Method m) {
        StringBuilder text = new StringBuilder(m.getReturnType() + " " + m.getName() + "(");
        for (Class<?> type : m.getParameterTypes()) {
            text.append(text.charAt(text.length() - 1) == '(' ? "" : ",").append(type);
        }
        text.append(")");
        for (Class<?> thrown : m.getExceptionTypes()) {
            text.append(" ").append(thrown.getSimpleName());
        }
        return text.toString();
    }

    private static void nested() {
        fields(ColourParts.class);
        for (Class<?> c : ColourParts.class.getDeclaredClasses()) {
            Check.same(c + " is static", Modifier.isStatic(c.getModifiers()), true);
            Check.same(c + " is not public", Modifier.isPublic(c.getModifiers()), false);
            fields(c);
        }
        Check.same("not too many classes", ColourParts.class.getDeclaredClasses().length < 12, true);
    }

    private static void fields(Class<?> c) {
        int own = 0;
        for (Field f : c.getDeclaredFields()) {
            boolean isStatic = Modifier.isStatic(f.getModifiers());
            own += isStatic ? 0 : 1;
            Check.same(f + " is final if static", !isStatic || Modifier.isFinal(f.getModifiers()), true);
            if (c == ColourParts.class) {
                Check.same(f + " is private but NONE", Modifier.isPrivate(f.getModifiers()), !f.getName().equals("NONE"));
            }
        }
        Check.same(c + " has not too many fields", own <= 20, true);
    }

    private static void words(String source) {
        String code = source.replaceAll("(?s)/\\*.*?\\*/", " ").replaceAll("//[^\n]*", " ");
        for (String word : UNWANTED) {
            Check.same("the code has " + word, Pattern.compile(word).matcher(code).find(), false);
        }
        Matcher imports = Pattern.compile("import ([^;]+);").matcher(code);
        while (imports.find()) {
            Check.sameText("import", imports.group(1), "java.util.ArrayList");
        }
        Matcher thrown = Pattern.compile("throw (?!new (IllegalState|IllegalArgument|IndexOutOfBounds)Exception\\()")
            .matcher(code);
        Check.same("another throw", thrown.find(), false);
        Matcher texts = Pattern.compile("[^\\x00-\\x7f]").matcher(source);
        Check.same("a sign above 127", texts.find(), false);
    }
}
