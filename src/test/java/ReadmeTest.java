import java.io.ByteArrayOutputStream;
import java.io.IOException;
import java.io.PrintStream;
import java.lang.reflect.Method;
import java.lang.reflect.Modifier;
import java.nio.file.DirectoryStream;
import java.nio.file.Files;
import java.nio.file.Path;

/** README.md shows Example.java as it is and what it prints, and names all that it should. */
public final class ReadmeTest {
    private static final Path TESTS = Path.of("src", "test", "java");
    private static int wrong = 0;

    private static void check(boolean holds, String what) {
        if (!holds) {
            wrong++;
            System.out.println("ReadmeTest: " + what);
        }
    }

    /** What stands in the first block of a kind; nothing when there is none. */
    private static String block(String page, String kind) {
        String opening = "\n```" + kind + "\n";
        int from = page.indexOf(opening);
        int to = page.indexOf("\n```\n", from + opening.length());
        return from < 0 || to < 0 ? "" : page.substring(from + opening.length(), to + 1);
    }

    private static String printed() {
        PrintStream out = System.out;
        ByteArrayOutputStream bytes = new ByteArrayOutputStream();
        System.setOut(new PrintStream(bytes, true));
        try {
            Example.main(new String[0]);
        } finally {
            System.setOut(out);
        }
        return bytes.toString().replace(System.lineSeparator(), "\n");
    }

    private static void names(String page) throws IOException {
        for (Method m : GymDesk.class.getDeclaredMethods()) {
            if (Modifier.isPublic(m.getModifiers())) {
                check(page.contains("`" + m.getName() + "("), "no word of " + m.getName());
            }
        }
        for (String word : new String[] {"new GymDesk()", "512 calls", "`NONE`, -1", "`RANGE`, -2", "`FULL`, -3",
            "bash .ci/run", "../shared/tests"}) {
            check(page.contains(word), "no word of " + word);
        }
        try (DirectoryStream<Path> tests = Files.newDirectoryStream(TESTS, "*.java")) {
            for (Path test : tests) {
                String name = test.getFileName().toString().replace(".java", "");
                check(page.contains("`" + name) || page.contains("/" + name), "no word of the test " + name);
            }
        }
    }

    public static void main(String[] args) throws IOException {
        String page = Files.readString(Path.of("README.md"));
        check(block(page, "java").equals(Files.readString(TESTS.resolve("Example.java"))), "the example is another");
        check(block(page, "text").equals(printed()), "the example prints something else");
        names(page);
        System.out.println("ReadmeTest: " + wrong + " wrong");
        if (wrong > 0) {
            System.exit(1);
        }
    }
}
