import java.io.IOException;
import java.nio.file.Files;
import java.nio.file.Path;
import java.util.regex.Matcher;
import java.util.regex.Pattern;

/** What README.md tells of the answers is so, and it tells of every call and test; run where the project stands. */
public final class ReadmeTest extends Checks {
    private static String readme;

    public static void main(String[] args) throws IOException {
        readme = Files.readString(Path.of("README.md"));
        example();
        everyCall();
        everyTest();
        end("ReadmeTest");
    }

    /** The answer that README.md tells behind this call. */
    private static int told(String call) {
        Matcher found = Pattern.compile("x\\." + Pattern.quote(call) + "; +// (\\d+):").matcher(readme);
        return found.find() ? Integer.parseInt(found.group(1)) : -99;
    }

    private static void example() {
        says("README.md, Use: the example");
        SliceWhy x = new SliceWhy();
        x.line(2, 0, 0, 0);
        x.line(11, 0, 3, 0);
        x.line(1, 1, 5, 0);
        x.line(3, 2, 1, 1);
        due("slice(3, 0)", x.slice(3, 0), told("slice(3, 0)"));
        due("causes(3)", x.causes(3), told("causes(3)"));
        due("cause(3, 0, 0)", x.cause(3, 0, 0), told("cause(3, 0, 0)"));
        due("cause(3, 0, 1)", x.cause(3, 0, 1), told("cause(3, 0, 1)"));
        due("way(3, 0)", x.way(3, 0), told("way(3, 0)"));
        due("on(1)", x.on(1), told("on(1)"));
        x.input(0, 7);
        due("run(NONE, 3)", x.run(SliceWhy.NONE, 3), told("run(SliceWhy.NONE, 3)"));
        due("saw(0)", x.saw(0), told("saw(0)"));
        due("same(3)", x.same(3), told("same(3)"));
        due("test()", x.test(), told("test()"));
        due("least(3)", x.least(3), told("least(3)"));
    }

    private static void everyCall() {
        says("README.md, Use: how to use the class");
        for (java.lang.reflect.Method m : SliceWhy.class.getMethods()) {
            if (m.getDeclaringClass() == SliceWhy.class) {
                due(m.getName() + "() is told of", readme.contains("`" + m.getName() + "(") ? 1 : 0, 1);
            }
        }
    }

    private static void everyTest() throws IOException {
        says("README.md, Tests");
        try (var files = Files.list(Path.of("src/test/java"))) {
            files.map(f -> f.getFileName().toString()).filter(f -> f.endsWith("Test.java"))
                .forEach(f -> due(f + " is told of", readme.contains("| `" + f.replace(".java", "") + "` |") ? 1 : 0, 1));
        }
    }
}
