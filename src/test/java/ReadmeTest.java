import java.io.IOException;
import java.nio.file.Files;
import java.nio.file.Path;
import java.util.List;

/** The example of README.md: every line of it is there, and every call answers what its comment begins with. */
public final class ReadmeTest {
    private static final Checks c = new Checks();
    private static int shown = 0;

    public static void main(String[] args) throws IOException {
        List<String> lines = Files.readAllLines(Path.of("README.md"));
        SeriesMarks marks = new SeriesMarks();
        show(lines, "marks.tell(012, 100);", marks.tell(012, 100));
        show(lines, "marks.tell(013, 50);", marks.tell(013, 50));
        show(lines, "marks.pass(1);", marks.pass(1));
        show(lines, "marks.tell(012, 130);", marks.tell(012, 130));
        show(lines, "marks.tell(013, 20);", marks.tell(013, 20));
        show(lines, "marks.growth(0, 1, 1);", marks.growth(0, 1, 1));
        show(lines, "marks.growth(1, 0, 1);", marks.growth(1, 0, 1));
        show(lines, "marks.ask(3, SeriesMarks.NONE, 0);", marks.ask(3, SeriesMarks.NONE, 0));
        show(lines, "marks.ask(2, 1, 7);", marks.ask(2, 1, 7));
        show(lines, "marks.drop(0, true);", marks.drop(0, true));
        show(lines, "marks.fold(1, 7, 1);", marks.fold(1, 7, 1));
        show(lines, "marks.shortAt(013, 0);", marks.shortAt(013, 0));
        show(lines, "marks.shortAt(013, 1);", marks.shortAt(013, 1));
        show(lines, "marks.kept(0, 1);", marks.kept(0, 1));
        show(lines, "marks.answer(0, 012, 0, 1);", marks.answer(0, 012, 0, 1));
        show(lines, "marks.works(0, 0, 1);", marks.works(0, 0, 1));
        show(lines, "marks.lacks(0, 0, 1);", marks.lacks(0, 0, 1));
        show(lines, "marks.works(1, 0, 1);", marks.works(1, 0, 1));
        show(lines, "marks.weigh(false, 0, 5);", marks.weigh(false, 0, 5));
        show(lines, "marks.weigh(true, 0, 40);", marks.weigh(true, 0, 40));
        show(lines, "marks.loss(1);", marks.loss(1));
        show(lines, "marks.plan(1, 0, 1);", marks.plan(1, 0, 1));
        show(lines, "marks.pass(199);", marks.pass(199));
        long inReadme = lines.stream().filter(line -> line.startsWith("marks.")).count();
        c.due("lines of the example that are tried here", shown, inReadme);
        c.end();
    }

    /** The calls are told in the order of the example, so the next one is the next line of it. */
    private static void show(List<String> lines, String call, long got) {
        List<String> example = lines.stream().filter(line -> line.startsWith("marks.")).toList();
        String line = shown < example.size() ? example.get(shown) : "";
        shown++;
        c.holds("README.md has " + call + " where it is tried: " + line, line.startsWith(call));
        String comment = line.substring(line.indexOf("//") + 2).trim();
        c.holds(call + " answered " + got + ", README.md says " + comment,
            comment.matches(got + "\\b.*"));
    }
}
