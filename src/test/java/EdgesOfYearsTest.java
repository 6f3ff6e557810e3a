/** The boundary cases of promises 1 to 3 and of the terms about years, a sentence at a time. */
public final class EdgesOfYearsTest {
    private static final int NONE = CostYears.NONE;

    public static void main(String[] args) {
        below1CountsAs1();
        above12CountsAs12();
        noParts();
        noWorks();
        nothingChosen();
        objectsShareNothing();
        yearsOfEachCall();
        indexIs1000AtFirst();
        indexIsWithin();
        indexAnswersWhatItWas();
        costIsRoundedDown();
        eachCostIsRoundedDown();
        budgetIs0AtFirst();
        budgetIsWithin();
        budgetAnswersWhatItWas();
        noneIsMinus1();
        upTo512Calls();
        Check.end();
    }

    private static void hasYears(int told, int years) {
        CostYears x = new CostYears(told);
        String name = "CostYears(" + told + ")";
        for (int year = 0; year < years; year++) {
            Check.due(name + ".index(" + year + ", 700)", x.index(year, 700), 1000);
        }
        Check.illegalArgument(name + ".index(" + years + ", 700)", () -> x.index(years, 700));
        Check.illegalArgument(name + ".index(-1, 700)", () -> x.index(-1, 700));
    }

    private static void below1CountsAs1() {
        Check.sentence("Promise 1: Y years (below 1 counts as 1)");
        int[] below = {0, -1, -2, -12, Integer.MIN_VALUE + 1, Integer.MIN_VALUE};
        for (int told : below) {
            hasYears(told, 1);
        }
        hasYears(1, 1);
        hasYears(2, 2);
    }

    private static void above12CountsAs12() {
        Check.sentence("Promise 1: Y years (above 12 counts as 12)");
        int[] above = {13, 14, 16, 24, 1000000, Integer.MAX_VALUE - 1, Integer.MAX_VALUE};
        for (int told : above) {
            hasYears(told, 12);
        }
        hasYears(11, 11);
        hasYears(12, 12);
    }

    private static void noParts() {
        Check.sentence("Promise 1: no parts");
        CostYears x = new CostYears(12);
        Check.illegalArgument("moves(0, 0, 1, 0)", () -> x.moves(0, 0, 1, 0));
        Check.illegalArgument("care(0, 0, 0)", () -> x.care(0, 0, 0));
        Check.illegalArgument("share(0, 0, 0)", () -> x.share(0, 0, 0));
        Check.illegalArgument("cares(0, 0)", () -> x.cares(0, 0));
        Check.illegalArgument("most(0, 0)", () -> x.most(0, 0));
        Check.illegalArgument("work(0, 1, 1, 0)", () -> x.work(0, 1, 1, 0));
        x.money(3, 2);
        Check.due("no care: reserve(11)", x.reserve(11), 27);
        Check.due("the first part's number", x.part(2, 0), 0);
    }

    private static void noWorks() {
        Check.sentence("Promise 1: no works");
        CostYears x = new CostYears(12);
        Check.illegalArgument("chosen(0)", () -> x.chosen(0));
        Check.illegalArgument("join(0, 1, 0)", () -> x.join(0, 1, 0));
        Check.illegalArgument("clash(0, 1, false)", () -> x.clash(0, 1, false));
        Check.illegalArgument("needs(0, NONE)", () -> x.needs(0, NONE));
        Check.due("lacks(0)", x.lacks(0), 0);
        Check.due("lacks(1)", x.lacks(1), 0);
        Check.due("lacks(-1)", x.lacks(-1), 0);
        Check.due("lacks(MIN)", x.lacks(Integer.MIN_VALUE), 0);
        Check.due("choose()", x.choose(), 0);
        Check.due("shortIn()", x.shortIn(), NONE);
        Check.due("the first work's number", x.work(11, 1, 1, NONE), 0);
    }

    private static void nothingChosen() {
        Check.sentence("Promise 1: nothing chosen");
        CostYears x = new CostYears(2);
        x.part(2, 0);
        x.moves(0, 0, 1, 16);
        x.budget(0, 100);
        x.budget(1, 100);
        x.work(0, 1, 1, NONE);
        x.work(1, 1, 1, 0);
        Check.due("chosen(0)", x.chosen(0), false);
        Check.due("chosen(1)", x.chosen(1), false);
        Check.due("costs(0)", x.costs(0), 0);
        Check.due("costs(1)", x.costs(1), 0);
        Check.due("reserve(1)", x.reserve(1), 0);
        Check.due("share(0, 0, 1)", x.share(0, 0, 1), 0);
    }

    private static void objectsShareNothing() {
        Check.sentence("Promise 1: a new object, also beside a used one");
        CostYears used = new CostYears(2);
        used.index(0, 500);
        used.budget(0, 9);
        used.part(2, 1);
        used.care(0, 1, 8);
        used.work(0, 2, 3, 0);
        used.money(4, 4);
        used.choose();
        CostYears x = new CostYears(2);
        Check.due("index(0, 2000)", x.index(0, 2000), 1000);
        Check.due("budget(0, 10)", x.budget(0, 10), 0);
        Check.illegalArgument("chosen(0)", () -> x.chosen(0));
        Check.illegalArgument("share(0, 0, 0)", () -> x.share(0, 0, 0));
        Check.due("reserve(1)", x.reserve(1), 0);
        Check.due("choose()", x.choose(), 0);
        Check.due("the used one's costs(0)", used.costs(0), 1);
        Check.due("the used one's reserve(0)", used.reserve(0), 3);
        Check.due("the used one's chosen(0)", used.chosen(0), true);
        Check.due("the used one's index(0, 500)", used.index(0, 500), 500);
        Check.due("the used one's budget(0, 9)", used.budget(0, 9), 9);
    }

    private static CostYears withAPart(int years) {
        CostYears x = new CostYears(years);
        x.part(2, 0);
        return x;
    }

    private static void yearsOfEachCall() {
        Check.sentence("Terms: YEARS are 0 .. Y - 1");
        for (int years = 1; years <= 12; years++) {
            int count = years;
            int last = years - 1;
            String of = " of " + years + " years";
            Check.bounds("index's year" + of, 0, last, y -> withAPart(count).index(y, 1000));
            Check.bounds("budget's year" + of, 0, last, y -> withAPart(count).budget(y, 1));
            Check.bounds("share's year" + of, 0, last, y -> withAPart(count).share(0, 0, y));
            Check.bounds("cares's year" + of, 0, last, y -> withAPart(count).cares(0, y));
            Check.bounds("most's year" + of, 0, last, y -> withAPart(count).most(0, y));
            Check.bounds("work's year" + of, 0, last, y -> withAPart(count).work(y, 1, 1, 0));
            Check.bounds("costs's year" + of, 0, last, y -> withAPart(count).costs(y));
            Check.bounds("reserve's year" + of, 0, last, y -> withAPart(count).reserve(y));
        }
    }

    private static void indexIs1000AtFirst() {
        Check.sentence("Terms: each has an INDEX (1000 at first)");
        for (int year = 0; year < 12; year++) {
            CostYears x = new CostYears(12);
            x.work(year, 999999, 1, NONE);
            Check.due("lacks(1), in year " + year, x.lacks(1), 999999);
            Check.due("index(" + year + ", 500)", x.index(year, 500), 1000);
        }
    }

    private static void indexIsWithin() {
        Check.sentence("Promise 2: a year's INDEX (500 .. 2000)");
        for (int year = 0; year < 3; year++) {
            int at = year;
            Check.bounds("index", 500, 2000, i -> new CostYears(3).index(at, i));
        }
        int[] wrong = {0, 1, -500, -1000, 499, 2001, 3000, 1000000};
        for (int index : wrong) {
            CostYears x = new CostYears(3);
            Check.illegalArgument("index(2, " + index + ")", () -> x.index(2, index));
            Check.due("as it was behind that", x.index(2, 1000), 1000);
        }
    }

    private static void indexAnswersWhatItWas() {
        Check.sentence("Promise 2: what it was");
        CostYears x = new CostYears(12);
        for (int year = 0; year < 12; year++) {
            Check.due("first, " + year, x.index(year, 500 + year), 1000);
        }
        for (int year = 0; year < 12; year++) {
            Check.due("second, " + year, x.index(year, 2000 - year), 500 + year);
        }
        for (int year = 0; year < 12; year++) {
            Check.due("the same once more, " + year, x.index(year, 2000 - year), 2000 - year);
            Check.due("and again, " + year, x.index(year, 1000), 2000 - year);
        }
    }

    private static void costIsRoundedDown() {
        Check.sentence("Terms: an amount COSTS amount * INDEX / 1000, rounded down");
        int[][] centsIndexCost = {
            {1, 500, 0}, {1, 999, 0}, {1, 1000, 1}, {1, 1001, 1}, {1, 1999, 1}, {1, 2000, 2},
            {2, 500, 1}, {2, 999, 1}, {3, 500, 1}, {3, 667, 2}, {3, 666, 1}, {999, 1001, 999},
            {1000, 1001, 1001}, {1000, 999, 999}, {1001, 999, 999}, {999999, 1001, 1000998},
            {999999, 1999, 1998998}, {1000000, 500, 500000}, {1000000, 1999, 1999000},
            {1000000, 2000, 2000000}};
        for (int[] row : centsIndexCost) {
            String told = row[0] + " cents at " + row[1] + ": ";
            CostYears x = new CostYears(2);
            x.index(1, row[1]);
            x.work(1, row[0], 7, NONE);
            Check.due(told + "lacks(1)", x.lacks(1), row[2]);
            x.budget(1, row[2]);
            Check.due(told + "choose() with as much", x.choose(), 7);
            Check.due(told + "costs(1)", x.costs(1), row[2]);
            Check.due(told + "reserve(1)", x.reserve(1), -row[2]);
            if (row[2] > 0) {
                x.budget(1, row[2] - 1);
                Check.due(told + "choose() with a cent less", x.choose(), 0);
                Check.due(told + "costs(1) of nothing", x.costs(1), 0);
            }
        }
    }

    private static void eachCostIsRoundedDown() {
        Check.sentence("Terms: the sum of what each of them costs in it");
        CostYears x = new CostYears(1);
        x.index(0, 1500);
        for (int work = 0; work < 10; work++) {
            x.work(0, 1, 1, NONE);
        }
        Check.due("ten times 1.5 are ten times 1", x.lacks(1023), 10);
        x.budget(0, 10);
        Check.due("so ten can be chosen", x.choose(), 10);
        Check.due("costs(0)", x.costs(0), 10);
        x.index(0, 1999);
        Check.due("ten times 1.999", x.costs(0), 10);
        x.index(0, 999);
        Check.due("ten times 0.999", x.costs(0), 0);
    }

    private static void budgetIs0AtFirst() {
        Check.sentence("Terms: and a BUDGET (0 at first)");
        for (int year = 0; year < 12; year++) {
            CostYears x = new CostYears(12);
            x.work(year, 1, 5, NONE);
            Check.due("a cent is too much in year " + year, x.choose(), 0);
            Check.due("lacks(1)", x.lacks(1), 1);
            x.index(year, 999);
            Check.due("what costs 0 can be chosen", x.choose(), 5);
            Check.due("budget(" + year + ", 0)", x.budget(year, 0), 0);
        }
    }

    private static void budgetIsWithin() {
        Check.sentence("Promise 3: a year's BUDGET (0 .. 10^9)");
        for (int year = 0; year < 3; year++) {
            int at = year;
            Check.bounds("budget", 0, 1000000000, c -> new CostYears(3).budget(at, c));
        }
        int[] wrong = {-1, -1000000000, 1000000001, 2000000000};
        for (int cents : wrong) {
            CostYears x = new CostYears(3);
            x.budget(2, 77);
            Check.illegalArgument("budget(2, " + cents + ")", () -> x.budget(2, cents));
            Check.due("as it was behind that", x.budget(2, 0), 77);
        }
    }

    private static void budgetAnswersWhatItWas() {
        Check.sentence("Promise 3: what it was");
        CostYears x = new CostYears(12);
        for (int year = 0; year < 12; year++) {
            Check.due("first, " + year, x.budget(year, 1000000000 - year), 0);
        }
        for (int year = 0; year < 12; year++) {
            Check.due("second, " + year, x.budget(year, year), 1000000000 - year);
        }
        for (int year = 0; year < 12; year++) {
            Check.due("the same once more, " + year, x.budget(year, year), year);
            Check.due("and again, " + year, x.budget(year, 0), year);
        }
    }

    private static void noneIsMinus1() {
        Check.sentence("Terms: the constants: NONE = -1: there is none");
        CostYears x = new CostYears(2);
        x.part(2, 0);
        x.moves(0, 0, 1, 16);
        x.budget(1, 10);
        Check.due("the constant", CostYears.NONE, -1);
        Check.due("no year is short", x.shortIn(), -1);
        Check.due("work(1, 1, 1, -1)", x.work(1, 1, 1, -1), 0);
        Check.due("work(1, 1, 1, 0)", x.work(1, 1, 1, 0), 1);
        Check.due("work(1, 1, 1, -1)", x.work(1, 1, 1, -1), 2);
        x.clash(1, 0, true);
        x.clash(1, 2, true);
        Check.due("choose()", x.choose(), 2);
        Check.due("none of the chosen renews the part", x.share(0, 1, 1), 16);
        Check.due("it needed none", x.needs(0, 2), -1);
        Check.due("it needs none", x.needs(0, -1), 2);
        Check.due("it needed none", x.needs(0, -1), -1);
        Check.due("clashing ones", x.lacks(3), -1);
        x.needs(0, 2);
        Check.due("one that lacks what it needs", x.lacks(1), -1);
    }

    private static void upTo512Calls() {
        Check.sentence("What it is: an object is used for at most 512 calls");
        CostYears x = new CostYears(1);
        x.work(0, 1, 1, NONE);
        for (int call = 2; call < 512; call++) {
            Check.due("call " + call, x.budget(0, call), call == 2 ? 0 : call - 1);
        }
        Check.due("call 512", x.choose(), 1);
    }
}
