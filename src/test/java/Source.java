import java.io.IOException;
import java.nio.file.Files;
import java.nio.file.Path;
import java.util.ArrayDeque;
import java.util.ArrayList;
import java.util.Deque;
import java.util.List;
import java.util.Set;
import java.util.TreeSet;
import java.util.regex.Matcher;
import java.util.regex.Pattern;

/** The class's text as tests look at it, and the other texts that they hold it against. */
final class Source {
    /** A method or a constructor: its first line without spaces doubled, and what stands within. */
    record Block(String header, String body) {
        int lines() {
            return body.split("\n", -1).length;
        }
    }

    private static final Pattern NO_METHOD = Pattern.compile("^(if|else|for|while|do|switch|try)\\b|\\bclass\\b|=");

    private Source() {
    }

    static String whole() {
        return text("src/main/java/ColourParts.java");
    }

    static String text(String path) {
        try {
            return Files.readString(Path.of(path));
        } catch (IOException e) {
            throw new IllegalStateException("run it from the top of the checkout: " + path + " can't be read", e);
        }
    }

    /** Without comments, and with empty texts, so that words alone can be looked for. */
    static String code() {
        return whole().replaceAll("(?s)/\\*.*?\\*/", " ").replaceAll("//[^\n]*", " ")
            .replaceAll("\"[^\"\n]*\"", "\"\"");
    }

    static String plain(String text) {
        return text.replaceAll("\\s+", " ").trim();
    }

    /** The lines of the first part of a document that stands between three signs like these. */
    static List<String> fenced(String text) {
        List<String> lines = new ArrayList<>();
        boolean isWithin = false;
        for (String line : text.split("\n")) {
            if (line.startsWith("```")) {
                if (isWithin) {
                    return lines;
                }
                isWithin = line.equals("```java");
            } else if (isWithin) {
                lines.add(line);
            }
        }
        return lines;
    }

    static List<Block> methods() {
        String code = code();
        List<Block> all = new ArrayList<>();
        Deque<Integer> starts = new ArrayDeque<>();
        Deque<String> headers = new ArrayDeque<>();
        int since = 0;
        for (int i = 0; i < code.length(); i++) {
            char c = code.charAt(i);
            if (c == '{') {
                starts.push(i);
                headers.push(plain(code.substring(since, i)));
            } else if (c == '}') {
                String header = headers.pop();
                int start = starts.pop();
                if (header.contains("(") && !NO_METHOD.matcher(header).find()) {
                    all.add(new Block(header, code.substring(start, i)));
                }
            }
            if (c == '{' || c == '}' || c == ';') {
                since = i + 1;
            }
        }
        return all;
    }

    /** Each first group of a pattern in the code, once. */
    static Set<String> all(String pattern) {
        Set<String> found = new TreeSet<>();
        Matcher m = Pattern.compile(pattern).matcher(code());
        while (m.find()) {
            found.add(m.group(1));
        }
        return found;
    }
}
