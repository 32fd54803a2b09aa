import java.io.IOException;
import java.nio.file.Files;
import java.nio.file.Path;
import java.util.regex.Matcher;
import java.util.regex.Pattern;

/** Those rules of ../shared/LANGUAGE.md that the text of the program tells: words, lengths, numbers of parameters. */
public final class LanguageTest {
    private static final String[] FORBIDDEN = {"throw", "throws", "try", "catch", "finally", "synchronized", "assert",
        "package", "import", "protected", "volatile", "native", "transient", "strictfp", "equals", "hashCode", "toString",
        "Object", "System\\.(?!arraycopy)\\w+", "Thread", "Random", "Math\\.\\w+Exact", "HashMap", "Map", "Set", "var",
        "yield", "float", "double", "->", "::", "@\\w+"};
    private static final Pattern METHOD = Pattern.compile("^ {4,8}(?:\\w+(?:\\[])? )+\\w+\\(([^)]*)\\) \\{$", Pattern.MULTILINE);

    private LanguageTest() {
    }

    public static void main(String[] args) throws IOException {
        String source = Files.readString(Path.of("src/main/java/QuarterTiles.java"));
        for (int i = 0; i < source.length(); i++) {
            if (source.charAt(i) > 126) {
                Due.holds("character " + i + " is plain", false);
            }
        }
        String code = source.replaceAll("(?s)/\\*.*?\\*/", "").replaceAll("//[^\n]*", "");
        for (String word : FORBIDDEN) {
            boolean isWord = Character.isLetter(word.charAt(0));
            Matcher matcher = Pattern.compile(isWord ? "\\b(?:" + word + ")\\b" : word).matcher(code);
            Due.holds("no " + word, !matcher.find());
        }
        Matcher classes = Pattern.compile("\\b(?:class|record|enum|interface) [A-Z]\\w*").matcher(code);
        int classCount = (int) classes.results().count();
        Due.holds(classCount + " classes are at most 12", classCount <= 12);
        methods(code);
        Due.end("LanguageTest");
    }

    private static void methods(String code) {
        Matcher matcher = METHOD.matcher(code);
        int found = 0;
        while (matcher.find()) {
            found++;
            String head = matcher.group().strip();
            int parameters = matcher.group(1).isEmpty() ? 0 : matcher.group(1).split(",").length;
            Due.holds(head + " has at most 7 parameters", parameters <= 7);
            int indent = matcher.group().indexOf(head);
            int end = code.indexOf("\n" + " ".repeat(indent) + "}", matcher.start());
            String body = code.substring(matcher.end(), end);
            String name = head.replaceAll("\\(.*", "").replaceAll(".* ", "");
            Due.holds(head + " is private, if it calls itself",
                head.startsWith("private ") || !Pattern.compile("(?<![\\w.])" + name + "\\(").matcher(body).find());
            long lines = code.substring(matcher.start(), end).lines().count();
            Due.holds(head + " has at most 60 lines, not " + lines, lines <= 60);
        }
        Due.holds("methods are found", found > 60);
    }
}
