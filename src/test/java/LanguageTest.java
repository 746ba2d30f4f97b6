import java.io.IOException;
import java.nio.file.Files;
import java.nio.file.Path;
import java.util.List;
import java.util.Set;
import java.util.regex.Matcher;
import java.util.regex.Pattern;

/** The rules of LANGUAGE.md that can be seen in the text of the class; run where the project stands. */
public final class LanguageTest extends Checks {
    private static final Path SOURCE = Path.of("src/main/java/SliceWhy.java");
    private static final Set<String> LIBRARY = Set.of("Integer.bitCount", "System.arraycopy");
    private static final Pattern METHOD = Pattern.compile("^( {4}| {8})[a-zA-Z][^=;]*\\(([^)]*)\\) \\{$");

    public static void main(String[] args) throws IOException {
        String text = Files.readString(SOURCE).replaceAll("(?s)/\\*.*?\\*/", "").replaceAll("//[^\n]*", "");
        List<String> lines = text.lines().toList();
        noOtherSigns(text);
        noOtherWords(text);
        libraryAlone(text);
        madeWithTheObject(lines);
        shortMethods(lines);
        fewClasses(text);
        end("LanguageTest");
    }

    private static int times(String text, String pattern) {
        return (int) Pattern.compile(pattern).matcher(text).results().count();
    }

    private static void noOtherSigns(String text) {
        says("LANGUAGE.md 2, 3: no lambda, no method reference; plain characters");
        due("->", times(text, "->"), 0);
        due("::", times(text, "::"), 0);
        due("characters beyond 126", times(text, "[^\\x0a\\x20-\\x7e]"), 0);
        due("arrays of more than two dimensions", times(text, "\\[\\]\\[\\]\\["), 0);
        due("arrays of two dimensions of own classes", times(text, "[A-Z]\\w*\\[\\]\\["), 0);
    }

    private static void noOtherWords(String text) {
        says("LANGUAGE.md 1, 6, 13: words that are not in it");
        String[] words = {"package", "import", "throw", "throws", "try", "catch", "finally", "synchronized", "assert",
            "volatile", "native", "protected", "instanceof", "this", "super", "double", "float", "\\w*Exact", "hashCode",
            "equals", "toString"};
        for (String word : words) {
            due(word, times(text, "\\b" + word + "\\b"), 0);
        }
        due("static blocks", times(text, "\\bstatic\\s*\\{"), 0);
    }

    private static void libraryAlone(String text) {
        says("LANGUAGE.md 4: the library: only what stands here");
        Matcher used = Pattern.compile("\\b[A-Z][a-z]\\w*\\.\\w+").matcher(text);
        while (used.find()) {
            boolean own = used.group().startsWith("Program.");
            due(used.group(), own || LIBRARY.contains(used.group()) ? 1 : 0, 1);
        }
    }

    private static void madeWithTheObject(List<String> lines) {
        says("LANGUAGE.md 12: what a run makes is counted; here all is made with the object");
        for (String line : lines) {
            if (line.contains(" new ")) {
                boolean field = line.matches(" +private final \\S+ \\w+ = new [^;]+;");
                boolean inConstructor = line.strip().equals("wholes[t] = new Machine();");
                due(line.strip(), field || inConstructor ? 1 : 0, 1);
            }
        }
    }

    private static void shortMethods(List<String> lines) {
        says("LANGUAGE.md 11: at most seven parameters, some sixty lines");
        int found = 0;
        for (int i = 0; i < lines.size(); i++) {
            Matcher head = METHOD.matcher(lines.get(i));
            if (head.matches()) {
                found++;
                due("parameters of " + lines.get(i).strip(), head.group(2).split(",").length <= 7 ? 1 : 0, 1);
                int length = lines.subList(i, lines.size()).indexOf(head.group(1) + "}") + 1;
                due("lines of " + lines.get(i).strip() + ": " + length, length > 2 && length <= 60 ? 1 : 0, 1);
            }
        }
        due("methods are found", found > 60 ? 1 : 0, 1);
    }

    private static void fewClasses(String text) {
        says("LANGUAGE.md 1, 11: one public class, at most some twelve in all");
        due("public", times(text, "public final class "), 1);
        due("classes", times(text, "\\bclass \\w+") <= 12 ? 1 : 0, 1);
        due("classes inside that are not private, static and final",
            times(text, "\\bclass \\w+") - 1 - times(text, "    private static final class "), 0);
    }
}
