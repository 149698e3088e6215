import java.io.IOException;
import java.nio.file.Files;
import java.nio.file.Path;
import java.util.ArrayList;
import java.util.List;

/** The example in README.md compiles and answers what it tells; this file holds the same lines. */
public final class ReadmeTest {
    private static final Path README = Path.of("README.md");
    private static final Path THIS_FILE = Path.of("src/test/java/ReadmeTest.java");

    public static void main(String[] args) throws IOException {
        Check check = new Check();
        example(check);
        List<String> told = between(README, "```java", "```");
        check.due("lines of the example", told.size() > 10, true);
        check.due("the example in README.md", told, between(THIS_FILE, "// The example begins.", "// It ends."));
        check.end();
    }

    private static void example(Check check) {
        // The example begins.
        RouteDesk desk = new RouteDesk();
        int topic = desk.exchange(2);            // 0 direct, 1 fanout, 2 topic, 3 headers
        int fanout = desk.exchange(1);
        int words = desk.queue();
        int rest = desk.queue();

        desk.type(0x612e23L, 3);                 // "a.#"
        desk.bind(topic, words, true);           // true: to a queue; false: to an exchange
        desk.bind(fanout, rest, true);           // a fanout's text is empty
        desk.alternate(topic, fanout);           // where to go on when no binding of topic is met

        desk.type(0x612e62L, 3);                 // "a.b"
        desk.message();                          // a new message with the key a.b
        desk.type(0x783d31L, 3);                 // "x=1"
        desk.header();                           // one header more
        int met = desk.route(topic);             // 1
        int first = desk.found(0);               // the number of the queue words

        desk.type(0x63L, 1);                     // "c"
        desk.message();                          // a new message with the key c, without headers
        int others = desk.route(topic);          // 1
        int other = desk.found(0);               // the number of the queue rest
        boolean isPassed = desk.passed(fanout);  // true
        // It ends.
        check.due("met", met, 1);
        check.due("first", first, words);
        check.due("others", others, 1);
        check.due("other", other, rest);
        check.due("isPassed", isPassed, true);
    }

    /** The lines after the first that is begin, up to the next that is end, without what they are set in by. */
    private static List<String> between(Path file, String begin, String end) throws IOException {
        List<String> lines = new ArrayList<>();
        boolean isInside = false;
        for (String line : Files.readAllLines(file)) {
            String text = line.strip();
            if (isInside && text.equals(end)) {
                return lines;
            }
            if (isInside) {
                lines.add(text);
            }
            isInside |= text.equals(begin);
        }
        return List.of();
    }
}
