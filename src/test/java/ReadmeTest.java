import java.io.IOException;
import java.nio.file.Files;
import java.nio.file.Path;

/** The example of README.md: its lines stand here as they stand there, and answer what it says. */
final class ReadmeTest {
    public static void main(String[] args) throws IOException {
        Check check = new Check();
        example(check);
        sameLines(check);
        check.end();
    }

    private static void example(Check check) {
        LayeredPage page = new LayeredPage();
        int box = page.shape(0x070507L, 3, 3, LayeredPage.NONE);
        int open = page.shape(0x060507L, 3, 3, box);
        page.place(box, 2, 1);
        page.place(open, 8, 8);
        page.paint(0, 0, 0x3F3F3F3F3F3F3F3FL);
        page.paint(1, 0, 0x0A0A0A0AL);
        int bytes = page.encode(10);
        int first = page.octet(0);
        int fault = page.decode();
        int ink = page.pixel(2, 1);
        int ground = page.pixel(0, 0);
        check.due("box", box, 0);
        check.due("open", open, 1);
        check.due("bytes", bytes, 59);
        check.due("first", first, 80);
        check.due("fault", fault, 0);
        check.due("ink", ink, 10);
        check.due("ground", ground, 63);
    }

    private static void sameLines(Check check) throws IOException {
        String readme = Files.readString(Path.of("README.md"));
        String here = Files.readString(Path.of("src/test/java/ReadmeTest.java"));
        String example = readme.substring(readme.indexOf("```java") + 7, readme.lastIndexOf("```"));
        for (String line : example.strip().split("\n")) {
            String call = line.replaceAll("//.*", "").strip();
            check.due(call + " stands here", here.contains("        " + call + "\n"), true);
        }
    }
}
