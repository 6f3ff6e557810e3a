/** Promises 1 to 3: a new object, index, budget. */
public final class YearsTest {
    public static void main(String[] args) {
        countsOfYears();
        newObjectIsEmpty();
        index();
        budget();
        Check.end();
    }

    private static void countsOfYears() {
        int[][] toldAndDue = {
            {Integer.MIN_VALUE, 1}, {-1, 1}, {0, 1}, {1, 1}, {2, 2}, {7, 7}, {11, 11}, {12, 12},
            {13, 12}, {1000, 12}, {Integer.MAX_VALUE, 12}};
        for (int[] row : toldAndDue) {
            CostYears x = new CostYears(row[0]);
            String name = "CostYears(" + row[0] + ")";
            for (int year = 0; year < row[1]; year++) {
                Check.due(name + ".costs(" + year + ")", x.costs(year), 0);
            }
            Check.illegalArgument(name + ".costs behind the last year", () -> x.costs(row[1]));
            Check.illegalArgument(name + ".costs(-1)", () -> x.costs(-1));
        }
    }

    private static void newObjectIsEmpty() {
        CostYears x = new CostYears(3);
        Check.due("NONE", CostYears.NONE, -1);
        Check.illegalArgument("no part: share", () -> x.share(0, 0, 0));
        Check.illegalArgument("no part: cares", () -> x.cares(0, 0));
        Check.illegalArgument("no part: most", () -> x.most(0, 0));
        Check.illegalArgument("no work: chosen", () -> x.chosen(0));
        Check.illegalArgument("no work: needs", () -> x.needs(0, CostYears.NONE));
        for (int year = 0; year < 3; year++) {
            Check.due("nothing chosen: costs", x.costs(year), 0);
            Check.due("no money: reserve", x.reserve(year), 0);
            Check.due("first index", x.index(year, 1000), 1000);
            Check.due("first budget", x.budget(year, 0), 0);
        }
        Check.due("no money: shortIn", x.shortIn(), CostYears.NONE);
        Check.due("no works: lacks", x.lacks(-1), 0);
        Check.due("no works: choose", x.choose(), 0);
    }

    private static void index() {
        CostYears x = new CostYears(4);
        Check.due("index(1, 500)", x.index(1, 500), 1000);
        Check.due("index(1, 2000)", x.index(1, 2000), 500);
        Check.illegalArgument("index(1, 499)", () -> x.index(1, 499));
        Check.illegalArgument("index(1, 2001)", () -> x.index(1, 2001));
        Check.illegalArgument("index(1, MIN)", () -> x.index(1, Integer.MIN_VALUE));
        Check.illegalArgument("index(1, MAX)", () -> x.index(1, Integer.MAX_VALUE));
        Check.illegalArgument("index(-1, 1000)", () -> x.index(-1, 1000));
        Check.illegalArgument("index(4, 1000)", () -> x.index(4, 1000));
        Check.illegalArgument("index(MIN, 1000)", () -> x.index(Integer.MIN_VALUE, 1000));
        Check.due("refused ones changed nothing", x.index(1, 1234), 2000);
        Check.due("another year has its own", x.index(2, 1001), 1000);
        Check.due("the last year", x.index(3, 700), 1000);
        Check.due("index(1, 1000)", x.index(1, 1000), 1234);
    }

    private static void budget() {
        CostYears x = new CostYears(4);
        Check.due("budget(3, 10^9)", x.budget(3, 1000000000), 0);
        Check.illegalArgument("budget(3, 10^9 + 1)", () -> x.budget(3, 1000000001));
        Check.illegalArgument("budget(3, -1)", () -> x.budget(3, -1));
        Check.illegalArgument("budget(4, 0)", () -> x.budget(4, 0));
        Check.illegalArgument("budget(-1, 0)", () -> x.budget(-1, 0));
        Check.due("refused ones changed nothing", x.budget(3, 0), 1000000000);
        Check.due("budget(3, 5)", x.budget(3, 5), 0);
        Check.due("another year has its own", x.budget(0, 6), 0);
        Check.due("budget(3, 5) again", x.budget(3, 5), 5);
    }
}
