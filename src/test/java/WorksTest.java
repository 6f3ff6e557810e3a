/** Promises 10 to 17: work, join, clash, needs, choose, chosen, costs, lacks. */
public final class WorksTest {
    private static final int NONE = CostYears.NONE;

    public static void main(String[] args) {
        work();
        workKeepsTheChoice();
        join();
        joinCounts();
        clash();
        needs();
        needsCounts();
        chooseWithinBudgets();
        chooseAmongEquals();
        chooseOfTen();
        costs();
        lacks();
        Check.end();
    }

    /** The choice made last as a number, work w counting 2^w. */
    private static int choice(CostYears x, int works) {
        int set = 0;
        for (int work = 0; work < works; work++) {
            if (x.chosen(work)) {
                set |= 1 << work;
            }
        }
        return set;
    }

    private static void work() {
        CostYears x = new CostYears(3);
        x.part(2, 0);
        Check.illegalArgument("work(3, 1, 0, NONE)", () -> x.work(3, 1, 0, NONE));
        Check.illegalArgument("work(-1, 1, 0, NONE)", () -> x.work(-1, 1, 0, NONE));
        Check.illegalArgument("work(0, 0, 0, NONE)", () -> x.work(0, 0, 0, NONE));
        Check.illegalArgument("work(0, -1, 0, NONE)", () -> x.work(0, -1, 0, NONE));
        Check.illegalArgument("work(0, 1000001, 0, NONE)", () -> x.work(0, 1000001, 0, NONE));
        Check.illegalArgument("work(0, 1, -1, NONE)", () -> x.work(0, 1, -1, NONE));
        Check.illegalArgument("work(0, 1, 1000001, NONE)", () -> x.work(0, 1, 1000001, NONE));
        Check.illegalArgument("work(0, 1, 0, 1)", () -> x.work(0, 1, 0, 1));
        Check.illegalArgument("work(0, 1, 0, -2)", () -> x.work(0, 1, 0, -2));
        Check.illegalArgument("no work yet", () -> x.chosen(0));
        Check.due("work(2, 1, 0, NONE)", x.work(2, 1, 0, NONE), 0);
        Check.due("work(0, 1000000, 1000000, 0)", x.work(0, 1000000, 1000000, 0), 1);
        for (int number = 2; number < 10; number++) {
            Check.due("work " + number, x.work(1, number, number, number % 2 - 1), number);
        }
        Check.illegalState("an eleventh work", () -> x.work(0, 1, 0, NONE));
        Check.illegalArgument("an eleventh, of a wrong year", () -> x.work(3, 1, 0, NONE));
        Check.illegalArgument("an eleventh, of wrong cents", () -> x.work(0, 0, 0, NONE));
        Check.illegalArgument("an eleventh, of a wrong worth", () -> x.work(0, 1, -1, NONE));
        Check.illegalArgument("an eleventh, of a wrong part", () -> x.work(0, 1, 0, 1));
        Check.illegalArgument("there is no work 10", () -> x.chosen(10));
        Check.due("the cents told", x.lacks(1 << 1), 1000000);
        Check.due("the cents told", x.lacks(1 << 9), 9);
    }

    private static void workKeepsTheChoice() {
        CostYears x = new CostYears(2);
        x.part(2, 0);
        x.moves(0, 0, 1, 1);
        x.budget(1, 10);
        x.work(1, 10, 5, 0);
        x.choose();
        x.work(1, 10, 6, NONE);
        Check.due("the old one stays chosen", choice(x, 2), 1);
        Check.due("and costs", x.costs(1), 10);
        Check.due("and renews", x.share(0, 0, 1), 1);
        Check.due("choose anew", x.choose(), 6);
        Check.due("the new one is chosen", choice(x, 2), 2);
        Check.due("and renews nothing", x.share(0, 0, 1), 15);
    }

    private static void join() {
        CostYears x = new CostYears(2);
        x.work(0, 10, 1, NONE);
        x.work(0, 10, 1, NONE);
        x.work(0, 10, 1, NONE);
        Check.due("join(0, 2, 1000000)", x.join(0, 2, 1000000), 0);
        Check.due("join(2, 0, 3): the same pair", x.join(2, 0, 3), 1000000);
        Check.due("another pair", x.join(0, 1, 4), 0);
        Check.illegalArgument("join(0, 0, 1)", () -> x.join(0, 0, 1));
        Check.illegalArgument("join(0, 3, 1)", () -> x.join(0, 3, 1));
        Check.illegalArgument("join(3, 0, 1)", () -> x.join(3, 0, 1));
        Check.illegalArgument("join(-1, 0, 1)", () -> x.join(-1, 0, 1));
        Check.illegalArgument("join(0, -1, 1)", () -> x.join(0, -1, 1));
        Check.illegalArgument("join(0, 2, -1)", () -> x.join(0, 2, -1));
        Check.illegalArgument("join(0, 2, 1000001)", () -> x.join(0, 2, 1000001));
        Check.due("refused ones changed nothing", x.join(0, 2, 0), 3);
        Check.due("not joined", x.join(0, 2, 0), 0);
        Check.due("the other pair is as it was", x.join(1, 0, 5), 4);
    }

    private static void joinCounts() {
        CostYears x = new CostYears(3);
        x.work(1, 100, 1, NONE);
        x.work(1, 50, 1, NONE);
        x.work(1, 30, 1, NONE);
        x.work(2, 20, 1, NONE);
        Check.due("not joined", x.lacks(7), 180);
        x.join(0, 1, 10);
        x.join(2, 1, 5);
        x.join(0, 2, 3);
        Check.due("three pairs save", x.lacks(7), 162);
        Check.due("one pair saves", x.lacks(6), 75);
        x.join(0, 3, 60);
        Check.due("works of two years save nothing", x.lacks(9), 120);
        x.index(1, 2000);
        Check.due("saved cents have no index", x.lacks(7), 342);
        x.join(0, 1, 1000000);
        Check.due("not below 0", x.lacks(7), 0);
        Check.due("nor for another year", x.lacks(15), 20);
        for (int year = 0; year < 3; year += 2) {
            CostYears y = new CostYears(3);
            y.work(year, 5, 1, NONE);
            y.work(year, 5, 1, NONE);
            y.join(0, 1, 11);
            y.choose();
            Check.due("not below 0 in year " + year, y.costs(year), 0);
            Check.due("nor its reserve above", y.reserve(2), 0);
        }
        x.budget(1, 200);
        Check.due("with a budget", x.lacks(1), 0);
        x.budget(1, 199);
        Check.due("one short", x.lacks(1), 1);
        Check.due("two are cheaper than one", x.lacks(3), 0);
    }

    private static void clash() {
        CostYears x = new CostYears(1);
        x.budget(0, 100);
        x.work(0, 1, 4, NONE);
        x.work(0, 1, 3, NONE);
        x.work(0, 1, 2, NONE);
        Check.due("clash(0, 1, true)", x.clash(0, 1, true), false);
        Check.due("clash(1, 0, true): the same pair", x.clash(1, 0, true), true);
        Check.due("another pair", x.clash(0, 2, false), false);
        Check.illegalArgument("clash(0, 0, true)", () -> x.clash(0, 0, true));
        Check.illegalArgument("clash(0, 3, true)", () -> x.clash(0, 3, true));
        Check.illegalArgument("clash(3, 0, true)", () -> x.clash(3, 0, true));
        Check.illegalArgument("clash(-1, 0, false)", () -> x.clash(-1, 0, false));
        Check.illegalArgument("clash(0, -1, false)", () -> x.clash(0, -1, false));
        Check.due("choose", x.choose(), 6);
        Check.due("0 and 2", choice(x, 3), 5);
        x.clash(2, 0, true);
        Check.due("1 and 2 are worth more than 0", x.choose(), 5);
        Check.due("1 and 2", choice(x, 3), 6);
        Check.due("the clash of 0 and 1 ends", x.clash(1, 0, false), true);
        Check.due("it has ended", x.clash(0, 1, false), false);
        Check.due("choose without it", x.choose(), 7);
        Check.due("0 and 1", choice(x, 3), 3);
        Check.due("the other clash stands", x.clash(0, 2, true), true);
    }

    private static void needs() {
        CostYears x = new CostYears(1);
        x.work(0, 1, 1, NONE);
        x.work(0, 1, 1, NONE);
        x.work(0, 1, 1, NONE);
        Check.due("needs(2, 0)", x.needs(2, 0), NONE);
        Check.due("needs(2, 1)", x.needs(2, 1), 0);
        Check.illegalArgument("needs(2, 2)", () -> x.needs(2, 2));
        Check.illegalArgument("needs(2, 3)", () -> x.needs(2, 3));
        Check.illegalArgument("needs(2, -2)", () -> x.needs(2, -2));
        Check.illegalArgument("needs(3, 0)", () -> x.needs(3, 0));
        Check.illegalArgument("needs(3, NONE)", () -> x.needs(3, NONE));
        Check.illegalArgument("needs(-1, 0)", () -> x.needs(-1, 0));
        Check.illegalArgument("needs(-1, NONE)", () -> x.needs(-1, NONE));
        Check.due("refused ones changed nothing", x.needs(2, NONE), 1);
        Check.due("none", x.needs(2, NONE), NONE);
        Check.due("each work has its own", x.needs(0, 1), NONE);
        Check.due("one may need one that needs it", x.needs(1, 0), NONE);
    }

    private static void needsCounts() {
        CostYears x = new CostYears(3);
        x.work(1, 10, 0, NONE);
        x.work(1, 10, 9, NONE);
        x.work(0, 10, 5, NONE);
        x.work(2, 10, 7, NONE);
        x.budget(0, 10);
        x.budget(1, 20);
        x.budget(2, 10);
        Check.due("without needs", x.choose(), 21);
        Check.due("0 is worth nothing", choice(x, 4), 14);
        x.needs(1, 0);
        Check.due("in the same year", x.choose(), 21);
        Check.due("0 is needed", choice(x, 4), 15);
        x.needs(3, 0);
        Check.due("3 is later than 0", x.lacks(9), 0);
        Check.due("3 alone lacks 0", x.lacks(8), NONE);
        x.needs(2, 0);
        Check.due("2 is earlier than 0", x.lacks(5), NONE);
        Check.due("so it is never chosen", x.choose(), 16);
        Check.due("0, 1 and 3", choice(x, 4), 11);
        x.budget(1, 10);
        Check.due("0 and 3 for 7, 1 does not fit", x.choose(), 7);
        Check.due("0 and 3", choice(x, 4), 9);
        x.clash(3, 0, true);
        x.needs(2, NONE);
        Check.due("needed and clashing", x.choose(), 5);
        Check.due("2 alone", choice(x, 4), 4);
        x.clash(0, 3, false);
        x.budget(1, 20);
        x.needs(0, 1);
        Check.due("0 and 1 need one another", x.choose(), 21);
        Check.due("all", choice(x, 4), 15);
        x.budget(1, 19);
        Check.due("neither without the other, nor 3", x.choose(), 5);
        Check.due("2 alone", choice(x, 4), 4);
    }

    private static void chooseWithinBudgets() {
        CostYears x = new CostYears(2);
        x.work(0, 101, 3, NONE);
        x.work(0, 100, 2, NONE);
        x.work(1, 5, 1, NONE);
        Check.due("no budget", x.choose(), 0);
        Check.due("nothing", choice(x, 3), 0);
        x.budget(0, 200);
        Check.due("one less than both take", x.choose(), 3);
        x.budget(0, 201);
        Check.due("just what both take", x.choose(), 5);
        x.budget(1, 1000);
        Check.due("and the other year's", x.choose(), 6);
        x.budget(0, 0);
        Check.due("no year helps another", x.choose(), 1);
        Check.due("2 alone", choice(x, 3), 4);
        x.index(0, 999);
        x.budget(0, 199);
        Check.due("100.899 and 99.9 are 100 and 99", x.choose(), 6);
        x.budget(0, 198);
        Check.due("one less", x.choose(), 4);
        Check.due("0 and 2", choice(x, 3), 5);
    }

    private static void chooseAmongEquals() {
        CostYears x = new CostYears(2);
        x.budget(0, 20);
        x.budget(1, 20);
        x.work(0, 12, 2, NONE);
        x.work(0, 11, 2, NONE);
        x.work(0, 15, 2, NONE);
        Check.due("of alike worth", x.choose(), 2);
        Check.due("the least cost", choice(x, 3), 2);
        x.work(1, 20, 2, NONE);
        x.clash(1, 3, true);
        x.clash(2, 3, true);
        Check.due("of both years", x.choose(), 4);
        Check.due("0 and 3", choice(x, 4), 9);

        CostYears y = new CostYears(1);
        y.budget(0, 20);
        y.work(0, 20, 4, NONE);
        y.work(0, 10, 2, NONE);
        y.work(0, 10, 2, NONE);
        Check.due("of alike worth and cost", y.choose(), 4);
        Check.due("the least number", choice(y, 3), 1);
        y.clash(1, 2, true);
        y.needs(0, 1);
        y.choose();
        Check.due("the least number again", choice(y, 3), 2);

        CostYears z = new CostYears(1);
        z.index(0, 500);
        z.budget(0, 100);
        z.work(0, 1, 0, NONE);
        z.work(0, 3, 0, NONE);
        Check.due("worth nothing", z.choose(), 0);
        Check.due("costing nothing, yet the least number is none", choice(z, 2), 0);
        z.work(0, 100, 7, NONE);
        z.join(1, 2, 2);
        Check.due("joined with one worth nothing", z.choose(), 7);
        Check.due("since it costs less", choice(z, 3), 6);
        Check.due("costs", z.costs(0), 49);
        z.join(1, 2, 1);
        z.choose();
        Check.due("it costs as much, so the least number", choice(z, 3), 4);
        z.join(1, 2, 3);
        z.budget(0, 48);
        Check.due("fits but joined", z.choose(), 7);
        Check.due("joined", choice(z, 3), 6);
    }

    private static void chooseOfTen() {
        CostYears x = new CostYears(12);
        for (int work = 0; work < 10; work++) {
            x.work(work, 1000000, 1000000, NONE);
            x.index(work, 2000);
            x.budget(work, 2000000);
        }
        Check.due("the most worth", x.choose(), 10000000);
        Check.due("all ten", choice(x, 10), 1023);
        for (int work = 0; work < 10; work++) {
            Check.due("the most cents", x.costs(work), 2000000);
            x.budget(work, 0);
        }
        Check.due("lacks all", x.lacks(1023), 20000000);
        x.choose();
        Check.due("none", choice(x, 10), 0);

        CostYears y = new CostYears(1);
        y.budget(0, 511);
        for (int work = 0; work < 10; work++) {
            y.work(0, 1 << work, work == 9 ? 512 : 1 << work, NONE);
        }
        Check.due("all but the last", y.choose(), 511);
        Check.due("all but the last", choice(y, 10), 511);
        y.budget(0, 1000);
        Check.due("choose", y.choose(), 1000);
        Check.due("by its bits", choice(y, 10), 1000);
        Check.illegalArgument("chosen(10)", () -> y.chosen(10));
        Check.illegalArgument("chosen(-1)", () -> y.chosen(-1));
        Check.illegalArgument("chosen(MAX)", () -> y.chosen(Integer.MAX_VALUE));
    }

    private static void costs() {
        CostYears x = new CostYears(3);
        x.work(1, 15, 5, NONE);
        x.work(1, 15, 5, NONE);
        x.work(2, 40, 5, NONE);
        x.budget(1, 30);
        Check.due("nothing is chosen", x.costs(1), 0);
        x.choose();
        Check.due("costs(0)", x.costs(0), 0);
        Check.due("costs(1)", x.costs(1), 30);
        Check.due("costs(2)", x.costs(2), 0);
        x.index(1, 1100);
        Check.due("each is rounded down, by the index told now", x.costs(1), 32);
        x.join(0, 1, 7);
        Check.due("by what they save now", x.costs(1), 25);
        x.join(0, 1, 33);
        Check.due("not below 0", x.costs(1), 0);
        x.join(0, 1, 0);
        x.budget(1, 0);
        x.clash(0, 1, true);
        Check.due("the choice made last stays", x.costs(1), 32);
        x.choose();
        Check.due("until it is made again", x.costs(1), 0);
        Check.illegalArgument("costs(3)", () -> x.costs(3));
        Check.illegalArgument("costs(-1)", () -> x.costs(-1));
    }

    private static void lacks() {
        CostYears x = new CostYears(3);
        Check.due("no works are asked", x.lacks(1023), 0);
        x.work(0, 10, 0, NONE);
        x.work(1, 20, 0, NONE);
        x.work(2, 40, 0, NONE);
        x.work(2, 80, 0, NONE);
        Check.due("none", x.lacks(0), 0);
        Check.due("all", x.lacks(15), 150);
        Check.due("bits above are not asked", x.lacks(-1), 150);
        Check.due("bits above alone", x.lacks(~15), 0);
        Check.due("the highest bit", x.lacks(Integer.MIN_VALUE | 1), 10);
        x.budget(0, 1000);
        x.budget(2, 50);
        Check.due("what one year has left helps no other", x.lacks(15), 90);
        Check.due("within the budget", x.lacks(4), 0);
        x.clash(2, 3, true);
        Check.due("two clash", x.lacks(12), NONE);
        Check.due("two of more clash", x.lacks(15), NONE);
        Check.due("one of them", x.lacks(8), 30);
        x.needs(1, 0);
        Check.due("lacks what it needs", x.lacks(2), NONE);
        Check.due("has what it needs", x.lacks(3), 20);
        x.needs(0, 1);
        Check.due("is earlier than what it needs", x.lacks(3), NONE);
        x.needs(0, NONE);
        x.choose();
        Check.due("lacks makes no choice", x.lacks(3), 20);
        Check.due("nothing is chosen by it", choice(x, 4), 0);
    }
}
