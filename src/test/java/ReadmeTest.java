import java.io.IOException;
import java.nio.file.Files;
import java.nio.file.Path;
import java.util.regex.Matcher;
import java.util.regex.Pattern;

/** The example of README.md: each call in its order, with the answer that is told beside it. */
public final class ReadmeTest {
    private static final Pattern TOLD =
        Pattern.compile("house\\.(\\w+\\(.*\\)); +// (-?\\d+|true|false)\\b.*");

    private final Matcher[] told;
    private int at = 0;

    private ReadmeTest(String text) {
        told = text.lines().map(TOLD::matcher).filter(Matcher::matches).toArray(Matcher[]::new);
    }

    public static void main(String[] args) throws IOException {
        Check.sentence("README.md");
        new ReadmeTest(Files.readString(Path.of("README.md"))).example();
        Check.end();
    }

    private void due(String call, Object answer) {
        String next = at < told.length ? told[at].group(1) : "nothing";
        String want = at < told.length ? told[at].group(2) : "nothing";
        at++;
        Check.due(call + " is told next, not " + next, next.equals(call), true);
        Check.due(call + " answers " + answer + ", told is " + want,
            String.valueOf(answer).equals(want), true);
    }

    private void example() {
        CostYears house = new CostYears(6);
        int roof = house.part(3, 0);
        house.moves(roof, 0, 1, 4);
        house.moves(roof, 1, 2, 8);
        house.care(roof, 2, 1000);
        due("share(roof, 0, 3)", house.share(roof, 0, 3));
        due("most(roof, 5)", house.most(roof, 5));
        due("cares(roof, 5)", house.cares(roof, 5));
        int tiles = house.work(2, 50000, 40, roof);
        int paint = house.work(2, 20000, 10, CostYears.NONE);
        int lamps = house.work(3, 9000, 30, CostYears.NONE);
        house.join(tiles, paint, 5000);
        due("needs(lamps, paint)", house.needs(lamps, paint));
        due("index(3, 1100)", house.index(3, 1100));
        due("lacks(0b111)", house.lacks(0b111));
        due("lacks(0b100)", house.lacks(0b100));
        due("budget(2, 65000)", house.budget(2, 65000));
        due("budget(3, 10000)", house.budget(3, 10000));
        due("choose()", house.choose());
        due("chosen(paint)", house.chosen(paint));
        due("costs(3)", house.costs(3));
        due("share(roof, 0, 3)", house.share(roof, 0, 3));
        due("clash(tiles, lamps, true)", house.clash(tiles, lamps, true));
        due("choose()", house.choose());
        house.money(30000, 10000);
        due("reserve(1)", house.reserve(1));
        due("shortIn()", house.shortIn());
        due("payment(1000, 1000, 3)", house.payment(1000, 1000, 3));
        due("rest(1000, 1000, 3, 1)", house.rest(1000, 1000, 3, 1));
        Check.due("answers told in README.md", told.length, at);
    }
}
