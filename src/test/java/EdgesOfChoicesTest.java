/** The boundary cases of promises 14 to 17, the choices, a sentence at a time. */
public final class EdgesOfChoicesTest {
    private static final int NONE = CostYears.NONE;

    public static void main(String[] args) {
        noMoreThanItsBudget();
        eachYearHasItsOwnBudget();
        theGreatestWorth();
        ofSeveralTheLeastCost();
        leastCostOfAllYears();
        ofTheseTheLeastNumber();
        worthNothing();
        choosesTheMost();
        madeAnew();
        chosenHoldsUntilThen();
        costsByWhatIsToldNow();
        costsOfNothing();
        lacksInAll();
        lacksAtTheBudget();
        lacksOfBitsAbove();
        lacksNoneOrNothing();
        lacksNoneOrAnAmount();
        lacksTheMost();
        lacksChangesNothing();
        Check.end();
    }

    private static int choice(CostYears x, int works) {
        int set = 0;
        for (int work = 0; work < works; work++) {
            set += x.chosen(work) ? 1 << work : 0;
        }
        return set;
    }

    /** Rows of year, cents and worth. */
    private static CostYears withWorks(int years, int[][] works) {
        CostYears x = new CostYears(years);
        for (int[] work : works) {
            x.work(work[0], work[1], work[2], NONE);
        }
        return x;
    }

    private static void chosenAre(String what, CostYears x, int works, int worth, int set) {
        Check.due(what + ": choose()", x.choose(), worth);
        Check.due(what + ": the set", choice(x, works), set);
    }

    private static void noMoreThanItsBudget() {
        Check.sentence("Terms: in each year the works cost no more than its budget");
        for (int year = 0; year < 12; year++) {
            CostYears x = withWorks(12, new int[][] {{year, 100, 3}, {year, 50, 2}});
            x.budget(year, 49);
            chosenAre("a cent too little for one", x, 2, 0, 0);
            x.budget(year, 50);
            chosenAre("just enough for one", x, 2, 2, 2);
            x.budget(year, 99);
            chosenAre("a cent too little for the other", x, 2, 2, 2);
            x.budget(year, 100);
            chosenAre("just enough for the other", x, 2, 3, 1);
            x.budget(year, 149);
            chosenAre("a cent too little for both", x, 2, 3, 1);
            x.budget(year, 150);
            chosenAre("just enough for both", x, 2, 5, 3);
            x.budget(year, 1000000000);
            chosenAre("the greatest budget", x, 2, 5, 3);
        }
    }

    private static void eachYearHasItsOwnBudget() {
        Check.sentence("Terms: in each year");
        CostYears x = withWorks(3, new int[][] {{0, 10, 1}, {1, 10, 2}, {2, 10, 4}});
        for (int set = 0; set < 8; set++) {
            for (int year = 0; year < 3; year++) {
                x.budget(year, (set >> year & 1) == 1 ? 10 : 9);
            }
            chosenAre("budgets " + set, x, 3, set, set);
        }
        x.budget(0, 30);
        x.budget(1, 0);
        x.budget(2, 0);
        chosenAre("one year's budget for no other", x, 3, 1, 1);
    }

    private static void theGreatestWorth() {
        Check.sentence("Terms: the choice that is MADE has the greatest worth in all");
        CostYears x = withWorks(1, new int[][] {{0, 1, 10}, {0, 100, 11}, {0, 50, 5}, {0, 50, 7}});
        x.budget(0, 100);
        chosenAre("two of 51 are worth 17", x, 4, 17, 9);
        x.clash(0, 3, true);
        chosenAre("two of 51 are worth 15", x, 4, 15, 5);
        x.clash(0, 2, true);
        chosenAre("two of 100 are worth 12", x, 4, 12, 12);
        x.clash(2, 3, true);
        chosenAre("one of 100 is worth a bit more than one of 1", x, 4, 11, 2);
        x.budget(0, 99);
        chosenAre("it does not fit", x, 4, 10, 1);
    }

    private static void ofSeveralTheLeastCost() {
        Check.sentence("Terms: of several the least cost of all years in all");
        CostYears x = withWorks(1, new int[][] {{0, 12, 5}, {0, 11, 5}, {0, 10, 5}});
        x.budget(0, 20);
        chosenAre("the last costs least", x, 3, 5, 4);
        x.budget(0, 21);
        chosenAre("the last two", x, 3, 10, 6);
        x.budget(0, 32);
        chosenAre("though others fit", x, 3, 10, 6);
        x.join(0, 1, 3);
        chosenAre("20 is less than 21", x, 3, 15, 7);
        x.budget(0, 29);
        chosenAre("20 is less than 21", x, 3, 10, 3);
        x.join(0, 1, 2);
        chosenAre("21 is as 21", x, 3, 10, 3);
        x.join(0, 1, 1);
        chosenAre("22 is more than 21", x, 3, 10, 6);
    }

    private static void leastCostOfAllYears() {
        Check.sentence("Terms: the least cost of all years in all");
        CostYears x = withWorks(12, new int[][] {{0, 50, 1}, {11, 49, 1}, {5, 51, 1}});
        x.budget(0, 50);
        x.budget(5, 51);
        x.budget(11, 49);
        x.clash(0, 1, true);
        x.clash(0, 2, true);
        x.clash(1, 2, true);
        chosenAre("the cheapest is in the last year", x, 3, 1, 2);
        x.index(11, 1030);
        x.budget(11, 1000);
        chosenAre("50.47 is 50, as in year 0", x, 3, 1, 1);
        x.index(5, 980);
        chosenAre("49.98 is 49", x, 3, 1, 4);

        CostYears y = withWorks(2, new int[][] {{0, 30, 4}, {0, 30, 2}, {1, 29, 2}});
        y.budget(0, 30);
        y.budget(1, 29);
        y.clash(0, 2, true);
        chosenAre("30 in one year, not 59 in two", y, 3, 4, 1);

        // A year's cost is not below 0, so what is over in year 0 makes year 1 no cheaper.
        CostYears z = withWorks(2, new int[][] {{0, 5, 1}, {0, 5, 1}, {1, 10, 2}, {1, 9, 4}});
        z.join(0, 1, 1000000);
        z.budget(1, 10);
        chosenAre("the first three and the last", z, 4, 6, 11);
        z.clash(0, 3, true);
        z.clash(1, 3, true);
        chosenAre("9 is less than 0 and 10", z, 4, 4, 8);
    }

    private static void ofTheseTheLeastNumber() {
        Check.sentence("Terms: of these the least number, work w counting 2^w");
        CostYears x = new CostYears(1);
        for (int work = 0; work < 10; work++) {
            x.work(0, 10, 3, NONE);
        }
        for (int fitting = 0; fitting <= 10; fitting++) {
            x.budget(0, 10 * fitting);
            chosenAre(fitting + " fit", x, 10, 3 * fitting, (1 << fitting) - 1);
        }
        CostYears y = withWorks(1, new int[][] {{0, 10, 5}, {0, 10, 5}, {0, 20, 10}});
        y.budget(0, 20);
        chosenAre("3 is less than 4", y, 3, 10, 3);
        CostYears z = withWorks(1, new int[][] {{0, 20, 10}, {0, 10, 5}, {0, 10, 5}});
        z.budget(0, 20);
        chosenAre("1 is less than 6", z, 3, 10, 1);
        CostYears v = withWorks(1, new int[][] {{0, 1, 1}, {0, 2, 2}, {0, 2, 2}, {0, 1, 1}});
        v.budget(0, 3);
        chosenAre("3 is less than 5, 10 and 12", v, 4, 3, 3);
        v.clash(0, 1, true);
        chosenAre("5 is less than 10 and 12", v, 4, 3, 5);
        v.clash(0, 2, true);
        chosenAre("10 is less than 12", v, 4, 3, 10);
        CostYears w = withWorks(2, new int[][] {{1, 10, 5}, {0, 10, 5}});
        w.budget(0, 10);
        w.budget(1, 10);
        w.clash(0, 1, true);
        chosenAre("the number tells, not the year", w, 2, 5, 1);
    }

    private static void worthNothing() {
        Check.sentence("Terms: of several the least cost, of these the least number (worth 0)");
        CostYears x = withWorks(1, new int[][] {{0, 1, 0}, {0, 9, 2}});
        x.budget(0, 100);
        chosenAre("it costs and is worth nothing", x, 2, 2, 2);
        x.index(0, 999);
        chosenAre("it costs nothing, yet the number is less", x, 2, 2, 2);
        x.index(0, 1000);
        x.join(0, 1, 1);
        chosenAre("it costs nothing with the other", x, 2, 2, 2);
        x.join(0, 1, 2);
        chosenAre("with it the other costs less", x, 2, 2, 3);
        Check.due("costs(0)", x.costs(0), 8);
        x.budget(0, 8);
        chosenAre("with it the other fits", x, 2, 2, 3);
        x.budget(0, 7);
        chosenAre("neither fits", x, 2, 0, 0);
        x.budget(0, 1);
        chosenAre("it alone fits, for nothing", x, 2, 0, 0);
        x.index(0, 999);
        x.budget(0, 0);
        chosenAre("it alone fits, for nothing, and costs nothing", x, 2, 0, 0);
    }

    private static void choosesTheMost() {
        Check.sentence("Promise 14: its worth in all");
        CostYears x = new CostYears(1);
        Check.due("of no works", x.choose(), 0);
        x.budget(0, 1000000000);
        x.index(0, 2000);
        for (int work = 0; work < 10; work++) {
            x.work(0, 1000000, 1000000, NONE);
            chosenAre(work + 1 + " works", x, work + 1, 1000000 * (work + 1), (2 << work) - 1);
            Check.due("costs(0)", x.costs(0), 2000000 * (work + 1));
        }
        x.budget(0, 20000000);
        chosenAre("just all", x, 10, 10000000, 1023);
        x.budget(0, 19999999);
        chosenAre("one does not fit", x, 10, 9000000, 511);
        x.budget(0, 1999999);
        chosenAre("none fits", x, 10, 0, 0);
    }

    private static void madeAnew() {
        Check.sentence("Promise 14: makes the choice");
        CostYears x = withWorks(2, new int[][] {{0, 5, 1}, {1, 5, 2}});
        x.budget(0, 5);
        x.budget(1, 5);
        chosenAre("both", x, 2, 3, 3);
        chosenAre("once more", x, 2, 3, 3);
        x.budget(0, 4);
        chosenAre("one", x, 2, 2, 2);
        x.budget(1, 4);
        chosenAre("none", x, 2, 0, 0);
        x.budget(0, 5);
        chosenAre("the other", x, 2, 1, 1);
    }

    private static void chosenHoldsUntilThen() {
        Check.sentence("Promise 15: whether a work is in the choice made last");
        CostYears x = withWorks(1, new int[][] {{0, 5, 1}, {0, 5, 2}});
        x.budget(0, 10);
        Check.due("none is made yet", choice(x, 2), 0);
        x.choose();
        x.budget(0, 0);
        x.clash(0, 1, true);
        x.needs(0, 1);
        x.index(0, 2000);
        x.join(0, 1, 3);
        Check.due("whatever is told", choice(x, 2), 3);
        Check.due("lacks() makes none", x.lacks(1), NONE);
        Check.due("lacks() makes none", x.lacks(0), 0);
        Check.due("both are still chosen", choice(x, 2), 3);
        Check.illegalArgument("chosen(2)", () -> x.chosen(2));
        Check.illegalArgument("chosen(NONE)", () -> x.chosen(NONE));
        x.choose();
        Check.due("made anew", choice(x, 2), 0);
    }

    private static void costsByWhatIsToldNow() {
        Check.sentence("Promise 16: by what is told now");
        CostYears x = withWorks(3, new int[][] {{1, 101, 1}, {1, 101, 1}, {2, 101, 1}});
        x.budget(1, 202);
        x.choose();
        Check.due("costs(1)", x.costs(1), 202);
        x.index(1, 1999);
        Check.due("201.899 twice", x.costs(1), 402);
        x.index(1, 500);
        Check.due("50.5 twice", x.costs(1), 100);
        x.join(0, 1, 99);
        Check.due("a cent", x.costs(1), 1);
        x.join(0, 1, 101);
        Check.due("not below 0", x.costs(1), 0);
        x.join(0, 1, 0);
        x.join(1, 2, 50);
        x.index(2, 2000);
        Check.due("joined with one that is not chosen", x.costs(1), 100);
        Check.due("its year", x.costs(2), 0);
        x.budget(1, 0);
        x.clash(0, 1, true);
        Check.due("more than the budget, and clashing", x.costs(1), 100);
    }

    private static void costsOfNothing() {
        Check.sentence("Promise 16: what the works of the choice made last cost");
        CostYears x = new CostYears(12);
        for (int year = 0; year < 12; year++) {
            Check.due("of no works", x.costs(year), 0);
            x.budget(year, 10);
        }
        for (int work = 0; work < 10; work++) {
            x.work(work + 2, work + 1, 1, NONE);
        }
        for (int year = 0; year < 12; year++) {
            Check.due("of no choice", x.costs(year), 0);
        }
        x.choose();
        for (int year = 0; year < 12; year++) {
            Check.due("of all, year " + year, x.costs(year), Math.max(0, year - 1));
        }
    }

    private static void lacksInAll() {
        Check.sentence("Promise 17: what budgets would have to be more, in all");
        CostYears x = new CostYears(12);
        for (int work = 0; work < 10; work++) {
            x.work(work + 2, 1 << work, 0, NONE);
        }
        for (int bit = 0; bit < 10; bit++) {
            Check.due("one", x.lacks(1 << bit), 1 << bit);
            Check.due("all but one", x.lacks(1023 - (1 << bit)), 1023 - (1 << bit));
        }
        Check.due("all", x.lacks(1023), 1023);
        x.budget(0, 1000000000);
        x.budget(1, 1000000000);
        Check.due("budgets of years without works", x.lacks(1023), 1023);
        x.budget(11, 1000000000);
        Check.due("a budget of one year helps no other", x.lacks(1023), 511);
        Check.due("of none", x.lacks(0), 0);
    }

    private static void lacksAtTheBudget() {
        Check.sentence("Promise 17: so that a set of works could be chosen as far as budgets go");
        CostYears x = withWorks(2, new int[][] {{1, 60, 1}, {1, 40, 1}});
        int[][] budgetAndLack = {{0, 100}, {1, 99}, {99, 1}, {100, 0}, {101, 0}, {1000000000, 0}};
        for (int[] row : budgetAndLack) {
            x.budget(1, row[0]);
            Check.due("budget " + row[0], x.lacks(3), row[1]);
            x.budget(1, row[0] + row[1]);
            Check.due("so much more is enough", x.choose(), 2);
        }
    }

    private static void lacksOfBitsAbove() {
        Check.sentence("Promise 17: bits above the works are not asked");
        CostYears x = new CostYears(1);
        for (int count = 0; count < 10; count++) {
            int all = (1 << count) - 1;
            int cents = 3 * count;
            for (int bit = count; bit < 32; bit++) {
                Check.due("bit " + bit + " of " + count, x.lacks(1 << bit | all), cents);
            }
            Check.due("bits above alone", x.lacks(~all), 0);
            Check.due("all bits", x.lacks(-1), cents);
            x.work(0, 3, 0, NONE);
        }
        for (int bit = 10; bit < 32; bit++) {
            Check.due("bit " + bit + " of 10", x.lacks(1 << bit), 0);
            Check.due("bit " + bit + " of 10, with all", x.lacks(1 << bit | 1023), 30);
        }
        x.clash(0, 1, true);
        x.needs(2, 3);
        Check.due("bits above do not clash", x.lacks(~1023), 0);
        Check.due("all bits do", x.lacks(-1), NONE);
        Check.due("the highest", x.lacks(Integer.MIN_VALUE), 0);
        Check.due("the highest, and a lack", x.lacks(Integer.MIN_VALUE | 4), NONE);
        Check.due("all but the highest, without 1", x.lacks(Integer.MAX_VALUE - 2), 27);
    }

    private static void lacksNoneOrNothing() {
        Check.sentence("Promise 17: NONE if some clash, or lack what they need");
        CostYears x = withWorks(2, new int[][] {{0, 1, 0}, {0, 1, 0}, {1, 1, 0}, {1, 1, 0}});
        x.budget(0, 10);
        x.budget(1, 10);
        x.clash(0, 3, true);
        x.needs(2, 1);
        x.needs(1, 2);
        for (int set = 0; set < 16; set++) {
            boolean clash = (set & 9) == 9;
            // Work 1 is in an earlier year than work 2, which it needs.
            boolean lack = (set & 6) != 0;
            Check.due("lacks(" + set + ")", x.lacks(set), clash || lack ? NONE : 0);
        }
        x.needs(1, NONE);
        for (int set = 0; set < 16; set++) {
            boolean clash = (set & 9) == 9;
            boolean lack = (set & 6) == 4;
            Check.due("lacks(" + set + ")", x.lacks(set), clash || lack ? NONE : 0);
        }
    }

    private static void lacksNoneOrAnAmount() {
        Check.sentence("Terms: it is chosen only with that, and not in an earlier year than that;"
            + " promise 17: NONE if some clash, or lack what they need");
        for (int year = 0; year < 12; year++) {
            for (int needed = 0; needed < 12; needed++) {
                CostYears x = withWorks(12, new int[][] {{year, 30, 1}, {needed, 50, 1}});
                String told = "in year " + year + ", what it needs in year " + needed + ": ";
                Check.due(told + "needing nothing", x.lacks(3), 80);
                x.needs(0, 1);
                Check.due(told + "both", x.lacks(3), year < needed ? NONE : 80);
                Check.due(told + "alone", x.lacks(1), NONE);
                Check.due(told + "the other", x.lacks(2), 50);
                x.budget(needed, 1000);
                x.budget(year, 1000);
                Check.due(told + "both, with budgets", x.lacks(3), year < needed ? NONE : 0);
                chosenAre(told + "as it is chosen", x, 2, year < needed ? 1 : 2,
                    year < needed ? 2 : 3);
                x.clash(0, 1, true);
                Check.due(told + "both, clashing", x.lacks(3), NONE);
            }
        }
    }

    private static void lacksTheMost() {
        Check.sentence("Promise 17: in all, at the most");
        CostYears one = new CostYears(1);
        CostYears ten = new CostYears(10);
        one.index(0, 2000);
        for (int work = 0; work < 10; work++) {
            one.work(0, 1000000, 0, NONE);
            ten.index(work, 2000);
            ten.work(work, 1000000, 0, NONE);
        }
        Check.due("in one year", one.lacks(1023), 20000000);
        Check.due("in ten", ten.lacks(1023), 20000000);
        for (int a = 0; a < 10; a++) {
            for (int b = 0; b < a; b++) {
                one.join(a, b, 1000000);
                ten.join(a, b, 1000000);
            }
        }
        Check.due("saved, in one year", one.lacks(1023), 0);
        Check.due("a pair, in one year", one.lacks(3), 3000000);
        Check.due("saved, in ten", ten.lacks(1023), 20000000);
    }

    private static void lacksChangesNothing() {
        Check.sentence("Promise 17: lacks asks, and makes no choice");
        CostYears x = withWorks(2, new int[][] {{0, 5, 1}, {1, 5, 2}});
        x.budget(0, 5);
        x.choose();
        Check.due("lacks(2)", x.lacks(2), 5);
        Check.due("the choice is as it was", choice(x, 2), 1);
        Check.due("costs(0)", x.costs(0), 5);
        Check.due("costs(1)", x.costs(1), 0);
        Check.due("reserve(1)", x.reserve(1), -5);
        Check.due("budget(1, 0)", x.budget(1, 0), 0);
    }
}
