import java.io.IOException;
import java.nio.file.Files;
import java.nio.file.Path;
import java.util.HashMap;
import java.util.HashSet;
import java.util.Map;
import java.util.Set;
import java.util.regex.Matcher;
import java.util.regex.Pattern;

/**
 * Those rules of ../shared/LANGUAGE.md that the text of the program tells: words, lengths, numbers of parameters, which
 * methods call themselves, and how deep calls go.
 */
public final class LanguageTest {
    private static final String[] FORBIDDEN = {"throw", "throws", "try", "catch", "finally", "synchronized", "assert",
        "package", "import", "protected", "volatile", "native", "transient", "strictfp", "equals", "hashCode", "toString",
        "Object", "System\\.(?!arraycopy)\\w+", "Thread", "Random", "Math\\.\\w+Exact", "HashMap", "Map", "Set", "var",
        "yield", "float", "double", "->", "::", "@\\w+"};
    private static final Pattern METHOD = Pattern.compile("^ {4,8}(?:\\w+(?:\\[])? )+\\w+\\(([^)]*)\\) \\{$", Pattern.MULTILINE);
    private static final Pattern CALL = Pattern.compile("(?<!new )\\b(\\w+)\\(");
    private static final int DEEPEST_CALL = 8;

    /** What the methods of a name call, by its name; some names are borne by methods of several classes. */
    private static final Map<String, Set<String>> CALLED = new HashMap<>();

    private LanguageTest() {
    }

    public static void main(String[] args) throws IOException {
        String source = Files.readString(Path.of("src/main/java/QuarterTiles.java"));
        for (int i = 0; i < source.length(); i++) {
            if (source.charAt(i) > 126) {
                Due.holds("character " + i + " is plain", false);
            }
        }
        String code = source.replaceAll("(?s)/\\*.*?\\*/", "").replaceAll("//[^\n]*", "");
        for (String word : FORBIDDEN) {
            boolean isWord = Character.isLetter(word.charAt(0));
            Matcher matcher = Pattern.compile(isWord ? "\\b(?:" + word + ")\\b" : word).matcher(code);
            Due.holds("no " + word, !matcher.find());
        }
        Matcher classes = Pattern.compile("\\b(?:class|record|enum|interface) [A-Z]\\w*").matcher(code);
        int classCount = (int) classes.results().count();
        Due.holds(classCount + " classes are at most 12", classCount <= 12);
        methods(code);
        for (String name : CALLED.keySet()) {
            int depth = depthOf(name, new HashSet<>());
            Due.holds(name + " goes at most " + DEEPEST_CALL + " deep, not " + depth, depth <= DEEPEST_CALL);
        }
        Due.end("LanguageTest");
    }

    private static void methods(String code) {
        Matcher matcher = METHOD.matcher(code);
        int found = 0;
        while (matcher.find()) {
            found++;
            String head = matcher.group().strip();
            int parameters = matcher.group(1).isEmpty() ? 0 : matcher.group(1).split(",").length;
            Due.holds(head + " has at most 7 parameters", parameters <= 7);
            int indent = matcher.group().indexOf(head);
            int end = code.indexOf("\n" + " ".repeat(indent) + "}", matcher.start());
            String name = head.replaceAll("\\(.*", "").replaceAll(".* ", "");
            Set<String> called = callsIn(code.substring(matcher.end(), end));
            // "a private static method that calls itself"; depthOf() finds methods that call one another
            Due.holds(head + " is private and static, if it calls itself",
                head.startsWith("private static ") || !called.contains(name));
            CALLED.computeIfAbsent(name, each -> new HashSet<>()).addAll(called);
            long lines = code.substring(matcher.start(), end).lines().count();
            Due.holds(head + " has at most 60 lines, not " + lines, lines <= 60);
        }
        Due.holds("methods are found", found > 60);
    }

    private static Set<String> callsIn(String body) {
        Set<String> names = new HashSet<>();
        Matcher matcher = CALL.matcher(body);
        while (matcher.find()) {
            names.add(matcher.group(1));
        }
        return names;
    }

    /** How many calls stand open at once at most, but for those of a method that calls itself. */
    private static int depthOf(String name, Set<String> open) {
        if (!open.add(name)) {
            Due.holds(name + " is not called by what it calls", false);
            return 0;
        }
        int deepest = 0;
        for (String each : CALLED.getOrDefault(name, Set.of())) {
            if (!each.equals(name)) {
                deepest = Math.max(deepest, depthOf(each, open));
            }
        }
        open.remove(name);
        return deepest + 1;
    }
}
