import java.io.IOException;
import java.nio.file.Path;

/**
 * Each sentence of the document, by its own words: the last value that it allows and the first one that it doesn't, full
 * and empty things, refused calls. Run where the project stands, so that the words are found again.
 */
public final class BoundsTest {
    public static void main(String[] args) throws IOException {
        Sheet sheet = new Sheet();
        new FaceBounds(sheet).run();
        new CodeBounds(sheet).run();
        new MeetingBounds(sheet).run();
        new ListBounds(sheet).run();
        if (!sheet.ends(Path.of("..", "shared", "DOC.md"))) {
            System.exit(1);
        }
    }
}
