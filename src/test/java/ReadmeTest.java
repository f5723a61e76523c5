import java.io.IOException;
import java.nio.file.Files;
import java.nio.file.Path;

/** The calls that README.md shows under "Use", with the answers that it tells of them. */
public final class ReadmeTest {
    private static final Check CHECK = new Check();

    public static void main(String[] args) throws IOException {
        AlreadyJudged x = new AlreadyJudged();
        CHECK.due("CLAIM 0", x.claim(102, 3, 0), 0);
        CHECK.due("four bytes", x.feed(4, '1' | '>' << 8 | '2' << 16 | ':' << 24), 4);
        CHECK.due("eight bytes", x.feed(4, '0' | '=' << 8 | 'm' << 16 | 'w' << 24), 8);
        CHECK.due("twelve bytes", x.feed(4, '@' | '8' << 8 | '0' << 16 | '/' << 24), 12);
        CHECK.due("thirteen bytes", x.feed(1, '0'), 13);
        CHECK.due("SUIT 0", x.suit(), 0);
        CHECK.due("on day 80 it is met", x.met(0, -1, 800), 0);
        CHECK.due("on day 79 it is open", x.met(0, -1, 790), AlreadyJudged.NOT);
        CHECK.due("CLAIM 1", x.claim(502, 3, 1), 1);
        CHECK.due("SHOE 0", x.shoe(5, 1, 1, 90), 0);
        CHECK.due("one is left", x.left(890, -1), 1);
        CHECK.due("CLAIM 1 is left", x.left(890, 0), 1);
        CHECK.due("person 5 is bound", x.met(1, -1, 900), 0);
        CHECK.due("it hangs on SHOE 0", x.hangs(1, -1, 900), 0);
        tables();
        CHECK.end("ReadmeTest");
    }

    /** Each call of the face, and each test of the project, stands in a table of README.md. */
    private static void tables() throws IOException {
        String readme = Files.readString(Path.of("README.md"));
        for (java.lang.reflect.Method m : AlreadyJudged.class.getDeclaredMethods()) {
            boolean isPublic = java.lang.reflect.Modifier.isPublic(m.getModifiers());
            CHECK.that("README.md names " + m.getName(), !isPublic || readme.contains("`" + m.getName() + "`"));
        }
        try (var files = Files.list(Path.of("src/test/java"))) {
            files.map(file -> file.getFileName().toString()).filter(name -> name.endsWith("Test.java")).forEach(name ->
                CHECK.that("README.md names " + name, readme.contains("| `" + name.substring(0, name.length() - 5) + "` |")));
        }
    }
}
