import java.io.IOException;
import java.nio.file.Files;
import java.nio.file.Path;
import java.util.ArrayList;
import java.util.List;

/** The example of README.md: its answers are those that are due, and README.md shows just the lines made here. */
final class UseTest {

    private static final Path README = Path.of("README.md");
    private static final Path SOURCE = Path.of("src/test/java/UseTest.java");
    private static final String FIRST_MARK = "// README begins";
    private static final String LAST_MARK = "// README ends";

    public static void main(String[] args) throws IOException {
        example();
        List<String> made = linesBetween(SOURCE, FIRST_MARK, LAST_MARK);
        Check.due("lines of the example", true, () -> made.size() > 10);
        List<String> shown = linesBetween(README, "```java", "```");
        Check.due("the example of README.md", made, () -> shown);
        Check.end();
    }

    private static void example() {
        // README begins
        Proofpress shop = new Proofpress();
        int document = shop.addDocument();              // 0
        shop.insert(document, 0, 'h');                  // version 1
        shop.insert(document, 1, 128512);               // version 2: a symbol counts as one character
        int comment = shop.comment(document, 0, 2);     // 0
        char bar = shop.bar(document, 0, false);        // 'f': the comment freezes the place
        shop.answer(comment);                           // 0 comments are open
        int sheets = shop.sign(document);               // 1
        shop.supply(500, 2);                            // 500 sheets of paper, 2 plates
        int order = shop.order(document, 100, 5);       // 100 copies, due at hour 5
        int sheet = shop.nextSheet(order);              // 0
        int leaves = shop.print(order, sheet);          // hour 2
        shop.pass(leaves - shop.hour());                // 1 sheet leaves the press
        char state = shop.stateOf(order, sheet);        // 'p': good
        shop.delete(document, 0);                       // 'h'; a late edit
        shop.sign(document);                            // and now the sheet is stale, 's'
        // README ends
        Check.due("2", 0, () -> document);
        Check.due("3", 3, () -> shop.version(document));
        Check.due("10", 0, () -> comment);
        Check.due("5", 'f', () -> bar);
        Check.due("15", 1, () -> sheets);
        Check.due("24", 0, () -> order);
        Check.due("31", 0, () -> sheet);
        Check.due("32", 2, () -> leaves);
        Check.due("27 good", 'p', () -> state);
        Check.due("27 stale", 's', () -> shop.stateOf(order, sheet));
        Check.due("22", 400, shop::paper);
        Check.due("40", 230L, () -> shop.cost(order));
    }

    /** The lines from the first one that is the first mark to the next one that is the last, without their margin. */
    private static List<String> linesBetween(Path file, String first, String last) throws IOException {
        List<String> lines = new ArrayList<>();
        boolean inside = false;
        for (String line : Files.readAllLines(file)) {
            String text = line.trim();
            if (inside && text.equals(last)) {
                return lines;
            }
            if (inside) {
                lines.add(text);
            }
            inside = inside || text.equals(first);
        }
        return lines;
    }
}
