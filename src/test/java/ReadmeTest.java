import java.io.IOException;
import java.nio.file.Files;
import java.nio.file.Path;
import java.util.regex.Matcher;
import java.util.regex.Pattern;

/** README.md says how to use the class: its code is the code of example(), its run of calls answers as it says. */
public final class ReadmeTest {
    public static void main(String[] args) throws IOException {
        String page = Files.readString(Path.of("README.md"));
        String source = Files.readString(Path.of("src/test/java/ReadmeTest.java"));
        String shown = block(page, "java");
        Check.holds("the page's code stands in example()", !shown.isEmpty() && source.contains(shown.indent(8)));
        example();
        Script.edge("README.md, its run of calls", block(page, "text"));
        for (String name : Script.names()) {
            Check.holds("the page's table has " + name, page.contains("`" + name + "`"));
        }
        Check.holds("the page says how to run the tests", page.contains("\n    .ci/run\n"));
        Check.end();
    }

    private static String block(String page, String kind) {
        Matcher found = Pattern.compile("(?s)\n```" + kind + "\n(.*?)\n```\n").matcher(page);
        return found.find() ? found.group(1) : "";
    }

    private static void example() {
        TwoSeas sea = new TwoSeas();
        sea.bullion(1, 500);                   // coins for factory 1
        int ship = sea.ship(0, 20);            // a ship of owner 0, 20 tons
        sea.take();                            // it is taken up
        for (char c : "buy 2 3;lade 2 9;sail 9".toCharArray()) {
            sea.feed(c, 1);                    // THE TAPE, byte by byte
        }
        int order = sea.order(1);              // the order, or -10 less the place of its fault
        sea.copy(order, ship);
        sea.sail(ship, 1);
        sea.days(120);                         // the ship comes, the order is read and done
        Check.due("the order", order, 0);
        Check.due("it is known at factory 1", sea.known(order, 1), 120);
        Check.due("it was done: bales aboard", sea.shipOf(ship, 7), 3);
    }
}
