/** The boundary cases of promises 10 to 13 and of the terms about works, a sentence at a time. */
public final class EdgesOfWorksTest {
    private static final int NONE = CostYears.NONE;

    public static void main(String[] args) {
        worksAre0To9();
        centsAreWithin();
        worthIsWithin();
        partOrNone();
        thereAre10();
        whatWasChosenStays();
        worksOfEachCall();
        savesAreWithin();
        joinedWithItself();
        joinAnswersWhatTheySaved();
        notJoined();
        saveIfBothAreChosen();
        saveInOneYear();
        eachPairSaves();
        savedCentsHaveNoIndex();
        costIsNotBelow0();
        clashesWithItself();
        clashAnswersWhetherTheyDid();
        notBothChosen();
        needsItself();
        needsNone();
        needsAnswersWhichItNeeded();
        chosenOnlyWithThat();
        notInAnEarlierYear();
        needsOneAtATime();
        needsInAChainAndARing();
        needsOneThatClashes();
        Check.end();
    }

    /** Works of 1 cent and worth 1 in year 0, with a budget for all of them. */
    private static CostYears withWorks(int count) {
        CostYears x = new CostYears(3);
        x.budget(0, 1000);
        for (int work = 0; work < count; work++) {
            x.work(0, 1, 1, NONE);
        }
        return x;
    }

    /** The choice made last as a number, work w counting 2^w. */
    private static int choice(CostYears x, int works) {
        int set = 0;
        for (int work = 0; work < works; work++) {
            set += x.chosen(work) ? 1 << work : 0;
        }
        return set;
    }

    private static void worksAre0To9() {
        Check.sentence("Terms: WORKS are 0 .. 9; promise 10: its number");
        CostYears x = new CostYears(12);
        for (int work = 0; work < 10; work++) {
            int next = work;
            Check.illegalArgument("there is no work " + work, () -> x.chosen(next));
            Check.due("work " + work, x.work(work, 100 + work, 1, NONE), work);
            Check.due("it is not chosen", x.chosen(work), false);
            Check.due("its cents", x.lacks(1 << work), 100 + work);
        }
        Check.illegalArgument("there is no work 10", () -> x.chosen(10));
        for (int work = 0; work < 10; work++) {
            Check.due("still its cents", x.lacks(1 << work), 100 + work);
        }
    }

    private static void centsAreWithin() {
        Check.sentence("Terms: with cents (1 .. 1000000)");
        Check.bounds("cents", 1, 1000000, c -> new CostYears(2).work(1, c, 0, NONE));
        int[] wrong = {0, -1, -1000000, 1000001, 1000000000};
        for (int cents : wrong) {
            CostYears x = new CostYears(2);
            Check.illegalArgument("work of " + cents, () -> x.work(0, cents, 1, NONE));
            Check.illegalArgument("there is no work behind that", () -> x.chosen(0));
            Check.due("the next one's number", x.work(0, 1, 1, NONE), 0);
        }
        CostYears x = new CostYears(1);
        x.work(0, 1, 0, NONE);
        x.work(0, 1000000, 0, NONE);
        Check.due("the least", x.lacks(1), 1);
        Check.due("the most", x.lacks(2), 1000000);
    }

    private static void worthIsWithin() {
        Check.sentence("Terms: and WORTH (0 .. 1000000)");
        Check.bounds("worth", 0, 1000000, w -> new CostYears(2).work(1, 1, w, NONE));
        int[] wrong = {-1, -1000000, 1000001, 1000000000};
        for (int worth : wrong) {
            CostYears x = new CostYears(2);
            Check.illegalArgument("work worth " + worth, () -> x.work(0, 1, worth, NONE));
            Check.illegalArgument("there is no work behind that", () -> x.chosen(0));
            Check.due("the next one's number", x.work(0, 1, 1, NONE), 0);
        }
        CostYears x = new CostYears(1);
        x.budget(0, 10);
        x.work(0, 1, 0, NONE);
        Check.due("worth 0", x.choose(), 0);
        x.work(0, 1, 1000000, NONE);
        Check.due("worth 1000000", x.choose(), 1000000);
    }

    private static CostYears withParts(int count) {
        CostYears x = new CostYears(2);
        for (int part = 0; part < count; part++) {
            x.part(2, 0);
            x.moves(part, 0, 1, 16);
        }
        return x;
    }

    private static void partOrNone() {
        Check.sentence("Promise 10: which renews a part, or none (NONE)");
        int[] counts = {0, 1, 5, 12};
        for (int count : counts) {
            String of = "work's part of " + count;
            Check.bounds(of, NONE, count - 1, p -> withParts(count).work(1, 1, 1, p));
            CostYears x = withParts(count);
            Check.illegalArgument(of + ": -2", () -> x.work(1, 1, 1, -2));
            Check.illegalArgument(of + ": one too many", () -> x.work(1, 1, 1, count));
            Check.illegalArgument("there is no work behind that", () -> x.chosen(0));
            x.budget(1, 9);
            Check.due("the next one's number", x.work(1, 1, 1, count - 1), 0);
            x.choose();
            for (int part = 0; part < count; part++) {
                boolean renewed = part == count - 1;
                Check.due("renews its part alone", x.share(part, 0, 1), renewed ? 1 : 0);
                Check.due("renews its part alone", x.share(part, 1, 1), renewed ? 0 : 16);
            }
        }
    }

    private static void thereAre10() {
        Check.sentence("Promise 10: illegal state: there are 10");
        CostYears x = withWorks(9);
        x.part(2, 0);
        Check.due("the tenth", x.work(0, 7, 3, NONE), 9);
        for (int time = 0; time < 3; time++) {
            Check.illegalState("an eleventh", () -> x.work(0, 1, 1, NONE));
            Check.illegalState("an eleventh with a part", () -> x.work(2, 1000000, 1000000, 0));
            Check.illegalArgument("there is no work 10", () -> x.chosen(10));
        }
        Check.due("the tenth is as it was", x.lacks(512), 0);
        Check.due("all ten", x.choose(), 12);
        Check.due("all ten cost", x.costs(0), 16);
        Check.due("in the last year nothing", x.costs(2), 0);
        Check.sentence("Terms: of several exceptions the one named first is thrown");
        Check.illegalArgument("an eleventh in year -1", () -> x.work(-1, 1, 1, NONE));
        Check.illegalArgument("an eleventh in year 3", () -> x.work(3, 1, 1, NONE));
        Check.illegalArgument("an eleventh of 0 cents", () -> x.work(0, 0, 1, NONE));
        Check.illegalArgument("an eleventh of 1000001 cents", () -> x.work(0, 1000001, 1, NONE));
        Check.illegalArgument("an eleventh worth -1", () -> x.work(0, 1, -1, NONE));
        Check.illegalArgument("an eleventh worth 1000001", () -> x.work(0, 1, 1000001, NONE));
        Check.illegalArgument("an eleventh with part 1", () -> x.work(0, 1, 1, 1));
        Check.illegalArgument("an eleventh with part -2", () -> x.work(0, 1, 1, -2));
        Check.illegalArgument("an eleventh, all wrong", () -> x.work(-1, 0, -1, -2));
    }

    private static void whatWasChosenStays() {
        Check.sentence("Promise 10: what was chosen stays");
        CostYears x = new CostYears(3);
        x.part(2, 0);
        x.moves(0, 0, 1, 8);
        x.budget(1, 10);
        x.budget(2, 10);
        x.work(1, 10, 1, 0);
        x.choose();
        for (int work = 1; work < 10; work++) {
            x.work(2, 1, 1000000, 0);
            Check.due("chosen behind work " + work, choice(x, work + 1), 1);
        }
        Check.illegalState("an eleventh", () -> x.work(0, 1, 1, 0));
        Check.due("costs(1)", x.costs(1), 10);
        Check.due("costs(2)", x.costs(2), 0);
        Check.due("renewed in year 1 alone", x.share(0, 0, 2), 8);
        Check.due("reserve(2)", x.reserve(2), -10);
        Check.due("choose() anew", x.choose(), 9000001);
        Check.due("all are chosen", choice(x, 10), 1023);
        Check.due("renewed in year 2 too", x.share(0, 0, 2), 1);
    }

    private static void worksOfEachCall() {
        Check.sentence("Terms: illegal argument: there is no such thing (a work)");
        int[] counts = {1, 2, 9, 10};
        for (int count : counts) {
            int last = count - 1;
            String of = " of " + count;
            Check.bounds("chosen" + of, 0, last, w -> withWorks(count).chosen(w));
            Check.bounds("needs's work" + of, 0, last, w -> withWorks(count).needs(w, NONE));
            int[] none = {-32, -2, -1, count, 10, 31, 32, 64};
            for (int no : none) {
                CostYears x = withWorks(count);
                Check.illegalArgument("chosen(" + no + ")" + of, () -> x.chosen(no));
                Check.illegalArgument("needs of " + no + of, () -> x.needs(no, NONE));
                Check.illegalArgument("join of 0, " + no + of, () -> x.join(0, no, 1));
                Check.illegalArgument("join of " + no + ", 0" + of, () -> x.join(no, 0, 1));
                Check.illegalArgument("clash of 0, " + no + of, () -> x.clash(0, no, true));
                Check.illegalArgument("clash of " + no + ", 0" + of, () -> x.clash(no, 0, true));
                Check.illegalArgument("clash of no two" + of, () -> x.clash(no, no + 1, true));
                Check.due("behind that all can be chosen", x.choose(), count);
                Check.due("and cost as before", x.costs(0), count);
            }
        }
        Check.bounds("join's a", 1, 9, a -> withWorks(10).join(a, 0, 1));
        Check.bounds("join's b", 1, 9, b -> withWorks(10).join(0, b, 1));
        Check.bounds("clash's a", 1, 9, a -> withWorks(10).clash(a, 0, true));
        Check.bounds("clash's b", 1, 9, b -> withWorks(10).clash(0, b, true));
    }

    private static void savesAreWithin() {
        Check.sentence("Promise 11: and save cents (0 .. 1000000)");
        Check.bounds("saves", 0, 1000000, s -> withWorks(2).join(0, 1, s));
        CostYears x = withWorks(2);
        x.join(0, 1, 1);
        int[] wrong = {-1, -1000000, 1000001, 1000000000};
        for (int saves : wrong) {
            Check.illegalArgument("join(0, 1, " + saves + ")", () -> x.join(0, 1, saves));
        }
        x.choose();
        Check.due("they save as before", x.costs(0), 1);
        Check.due("and answer it", x.join(0, 1, 1000000), 1);
        Check.due("the most", x.join(0, 1, 0), 1000000);
    }

    private static void joinedWithItself() {
        Check.sentence("Promise 11: illegal argument: also if both are one");
        CostYears x = withWorks(10);
        for (int work = 0; work < 10; work++) {
            int at = work;
            Check.illegalArgument("with 0 cents", () -> x.join(at, at, 0));
            Check.illegalArgument("with 1 cent", () -> x.join(at, at, 1));
            Check.illegalArgument("with the most", () -> x.join(at, at, 1000000));
        }
        x.choose();
        Check.due("nothing is saved behind that", x.costs(0), 10);
    }

    private static void joinAnswersWhatTheySaved() {
        Check.sentence("Promise 11: what they saved");
        CostYears x = withWorks(10);
        for (int a = 0; a < 10; a++) {
            for (int b = 0; b < a; b++) {
                Check.due("nothing at first", x.join(a, b, 10 * a + b + 1), 0);
            }
        }
        for (int a = 0; a < 10; a++) {
            for (int b = 0; b < a; b++) {
                Check.due("as told, the other way round", x.join(b, a, 5), 10 * a + b + 1);
                Check.due("told anew", x.join(a, b, 5), 5);
            }
        }
    }

    private static void notJoined() {
        Check.sentence("Promise 11: 0: they are not");
        CostYears x = new CostYears(1);
        x.work(0, 50, 1, NONE);
        x.work(0, 50, 1, NONE);
        Check.due("at first", x.lacks(3), 100);
        x.join(0, 1, 1);
        Check.due("joined by a cent", x.lacks(3), 99);
        x.join(1, 0, 0);
        Check.due("no longer", x.lacks(3), 100);
        Check.due("what they saved", x.join(0, 1, 0), 0);
    }

    private static void saveIfBothAreChosen() {
        Check.sentence("Terms: JOINED works save cents, if both are chosen");
        CostYears x = new CostYears(1);
        x.work(0, 50, 2, NONE);
        x.work(0, 50, 1, NONE);
        x.join(0, 1, 30);
        Check.due("one", x.lacks(1), 50);
        Check.due("the other", x.lacks(2), 50);
        Check.due("both", x.lacks(3), 70);
        x.budget(0, 69);
        Check.due("one is chosen", x.choose(), 2);
        Check.due("and costs", x.costs(0), 50);
        x.budget(0, 70);
        Check.due("both are chosen", x.choose(), 3);
        Check.due("and cost", x.costs(0), 70);
    }

    private static void saveInOneYear() {
        Check.sentence("Terms: JOINED works save cents, if they are in one year");
        CostYears x = new CostYears(12);
        x.work(11, 50, 1, NONE);
        x.work(10, 50, 1, NONE);
        x.work(11, 50, 1, NONE);
        x.work(0, 50, 1, NONE);
        for (int a = 0; a < 4; a++) {
            for (int b = 0; b < a; b++) {
                x.join(a, b, 20);
            }
        }
        Check.due("of years 11 and 10", x.lacks(3), 100);
        Check.due("of years 11 and 11", x.lacks(5), 80);
        Check.due("of years 11 and 0", x.lacks(9), 100);
        Check.due("all", x.lacks(15), 180);
    }

    private static void eachPairSaves() {
        Check.sentence("Terms: less what joined ones save");
        CostYears x = new CostYears(1);
        for (int work = 0; work < 10; work++) {
            x.work(0, 1000, 1, NONE);
            for (int other = 0; other < work; other++) {
                x.join(work, other, 1 + other);
            }
        }
        // The lower work of a pair tells what it saves: 1 + w for each of the 9 - w above it.
        Check.due("all 45 pairs", x.lacks(1023), 10000 - 165);
        Check.due("the pair of the highest", x.lacks(768), 2000 - 9);
        Check.due("the pair of the farthest", x.lacks(513), 2000 - 1);
        Check.due("three pairs", x.lacks(7), 3000 - 1 - 1 - 2);
        x.budget(0, 10000 - 165);
        Check.due("choose()", x.choose(), 10);
        Check.due("costs(0)", x.costs(0), 10000 - 165);
        x.budget(0, 10000 - 166);
        Check.due("choose() with a cent less", x.choose(), 9);
    }

    private static void savedCentsHaveNoIndex() {
        Check.sentence("Terms: saved cents have no index");
        int[][] indexAndCost = {{500, 90}, {1000, 190}, {1999, 388}, {2000, 390}};
        for (int[] row : indexAndCost) {
            CostYears x = new CostYears(2);
            x.work(1, 100, 1, NONE);
            x.work(1, 100, 1, NONE);
            x.join(0, 1, 10);
            x.index(1, row[0]);
            Check.due("at " + row[0], x.lacks(3), row[1]);
            x.budget(1, row[1]);
            Check.due("choose()", x.choose(), 2);
            Check.due("costs(1)", x.costs(1), row[1]);
        }
    }

    private static void costIsNotBelow0() {
        Check.sentence("Terms: what a year's works COST: not below 0");
        CostYears x = new CostYears(2);
        x.work(0, 10, 1, NONE);
        x.work(0, 10, 1, NONE);
        x.work(1, 5, 1, NONE);
        int[][] savesAndCost = {{19, 1}, {20, 0}, {21, 0}, {1000000, 0}};
        for (int[] row : savesAndCost) {
            String told = "saving " + row[0] + ": ";
            x.budget(0, 20);
            x.budget(1, 5);
            x.join(0, 1, row[0]);
            Check.due(told + "choose()", x.choose(), 3);
            Check.due(told + "costs(0)", x.costs(0), row[1]);
            Check.due(told + "costs(1)", x.costs(1), 5);
            Check.due(told + "reserve(1)", x.reserve(1), -5 - row[1]);
            x.budget(0, 0);
            x.budget(1, 0);
            Check.due(told + "lacks(7)", x.lacks(7), 5 + row[1]);
            Check.due(told + "lacks(3)", x.lacks(3), row[1]);
        }
        Check.due("what is over helps no other year", x.choose(), 2);
        x.work(0, 30, 1, NONE);
        Check.due("it helps others of that year", x.lacks(11), 0);
    }

    private static void clashesWithItself() {
        Check.sentence("Promise 12: illegal argument: also if both are one");
        CostYears x = withWorks(10);
        for (int work = 0; work < 10; work++) {
            int at = work;
            Check.illegalArgument("on", () -> x.clash(at, at, true));
            Check.illegalArgument("off", () -> x.clash(at, at, false));
            Check.due("it can be chosen behind that", x.lacks(1 << work), 0);
        }
        Check.due("and all are", x.choose(), 10);
    }

    private static void clashAnswersWhetherTheyDid() {
        Check.sentence("Promise 12: whether they did");
        CostYears x = withWorks(10);
        for (int a = 0; a < 10; a++) {
            for (int b = 0; b < a; b++) {
                Check.due("not at first", x.clash(a, b, (a + b) % 3 == 0), false);
            }
        }
        for (int a = 0; a < 10; a++) {
            for (int b = 0; b < a; b++) {
                boolean did = (a + b) % 3 == 0;
                Check.due("as told, the other way round", x.clash(b, a, !did), did);
                Check.due("told anew", x.clash(a, b, !did), !did);
                Check.due("told anew", x.clash(a, b, did), !did);
            }
        }
        Check.due("off where it is off", x.clash(1, 0, false), false);
        Check.due("off where it is off", x.clash(0, 1, false), false);
    }

    private static void notBothChosen() {
        Check.sentence("Terms: CLASHING ones are not both chosen");
        for (int a = 0; a < 10; a++) {
            for (int b = 0; b < 10; b++) {
                if (a != b) {
                    CostYears x = withWorks(10);
                    x.clash(a, b, true);
                    Check.due("all but one", x.choose(), 9);
                    int higher = Math.max(a, b);
                    Check.due("the lower one is chosen", choice(x, 10), 1023 - (1 << higher));
                    x.clash(b, a, false);
                    Check.due("all", x.choose(), 10);
                }
            }
        }
        CostYears x = new CostYears(2);
        x.budget(0, 1);
        x.budget(1, 1);
        x.work(0, 1, 1, NONE);
        x.work(1, 1, 2, NONE);
        x.clash(0, 1, true);
        Check.due("of two years too", x.choose(), 2);
        Check.due("the other one", choice(x, 2), 2);
    }

    private static void needsItself() {
        Check.sentence("Promise 13: illegal argument: also if it is itself");
        CostYears x = withWorks(10);
        for (int work = 0; work < 10; work++) {
            int at = work;
            Check.illegalArgument("needs(" + at + ", " + at + ")", () -> x.needs(at, at));
            Check.due("it needs none behind that", x.needs(at, NONE), NONE);
        }
        x.needs(4, 5);
        Check.illegalArgument("needs(4, 4)", () -> x.needs(4, 4));
        Check.due("it needs what it needed", x.needs(4, NONE), 5);
    }

    private static void needsNone() {
        Check.sentence("Promise 13: a work NEEDS another one, or none (NONE)");
        int[] counts = {1, 2, 9, 10};
        for (int count : counts) {
            int[] no = {Integer.MIN_VALUE, -32, -2, count, 10, 32, Integer.MAX_VALUE};
            for (int other : no) {
                CostYears x = withWorks(count);
                Check.illegalArgument("needs(0, " + other + ")", () -> x.needs(0, other));
                Check.due("it needs none behind that", x.needs(0, NONE), NONE);
                Check.due("so it is chosen", x.choose(), count);
            }
            Check.illegalArgument("NONE needs none", () -> withWorks(count).needs(NONE, NONE));
            Check.illegalArgument("NONE needs 0", () -> withWorks(count).needs(NONE, 0));
        }
        Check.bounds("needs's other", NONE, 8, o -> withWorks(10).needs(9, o));
        CostYears x = withWorks(2);
        x.needs(0, 1);
        Check.due("one alone lacks the other", x.lacks(1), NONE);
        Check.due("needs(0, NONE)", x.needs(0, NONE), 1);
        Check.due("it lacks nothing", x.lacks(1), 0);
    }

    private static void needsAnswersWhichItNeeded() {
        Check.sentence("Promise 13: which it needed");
        CostYears x = withWorks(10);
        for (int work = 0; work < 10; work++) {
            Check.due("none at first", x.needs(work, 9 - work), NONE);
        }
        for (int work = 0; work < 10; work++) {
            Check.due("as told", x.needs(work, (work + 1) % 10), 9 - work);
            Check.due("told anew", x.needs(work, (work + 1) % 10), (work + 1) % 10);
        }
    }

    private static void chosenOnlyWithThat() {
        Check.sentence("Terms: it is chosen only with that");
        for (int other = 1; other < 10; other++) {
            CostYears x = withWorks(10);
            x.needs(0, other);
            Check.due("without " + other, x.lacks(1023 - (1 << other)), NONE);
            Check.due("with it", x.lacks(1 + (1 << other)), 0);
            Check.due("that needs not this", x.lacks(1 << other), 0);
        }
        CostYears x = new CostYears(1);
        x.work(0, 10, 5, NONE);
        x.work(0, 10, 0, NONE);
        x.needs(0, 1);
        x.budget(0, 19);
        Check.due("not both within the budget", x.choose(), 0);
        x.budget(0, 20);
        Check.due("just both", x.choose(), 5);
        Check.due("both", choice(x, 2), 3);
    }

    private static void notInAnEarlierYear() {
        Check.sentence("Terms: and not in an earlier year than that");
        for (int year = 0; year < 12; year++) {
            CostYears x = new CostYears(12);
            for (int at = 0; at < 12; at++) {
                x.budget(at, 2);
            }
            x.work(6, 1, 1, NONE);
            x.work(year, 1, 2, NONE);
            x.needs(1, 0);
            boolean may = year >= 6;
            Check.due("in year " + year + " lacks(3)", x.lacks(3), may ? 0 : NONE);
            Check.due("in year " + year + " choose()", x.choose(), may ? 3 : 1);
            Check.due("in year " + year, choice(x, 2), may ? 3 : 1);
        }
    }

    private static void needsOneAtATime() {
        Check.sentence("Terms: one may NEED another one");
        CostYears x = withWorks(4);
        x.needs(0, 1);
        x.needs(0, 2);
        Check.due("it needs 2", x.lacks(5), 0);
        Check.due("and 1 no longer", x.lacks(3), NONE);
        x.needs(3, 2);
        Check.due("two may need the same one", x.lacks(13), 0);
        Check.due("and lack it", x.lacks(9), NONE);
        x.clash(1, 2, true);
        Check.due("the needed one is worth more than the other", x.choose(), 3);
        Check.due("all but 1", choice(x, 4), 13);
        x.needs(0, 1);
        x.needs(3, 1);
        Check.due("told anew", x.choose(), 3);
        Check.due("all but 2", choice(x, 4), 11);
    }

    private static void needsInAChainAndARing() {
        Check.sentence("Terms: all have what they need");
        CostYears x = withWorks(10);
        for (int work = 0; work < 9; work++) {
            x.needs(work, work + 1);
        }
        Check.due("a chain of all", x.choose(), 10);
        x.budget(0, 9);
        Check.due("a chain without its beginning", x.choose(), 9);
        Check.due("that of the least number lacks work 0", choice(x, 10), 1022);
        x.budget(0, 1);
        x.choose();
        Check.due("the end alone", choice(x, 10), 512);
        x.needs(9, 0);
        Check.due("a ring is not chosen in part", x.choose(), 0);
        x.budget(0, 10);
        Check.due("a ring is chosen as a whole", x.choose(), 10);
        CostYears y = new CostYears(2);
        y.budget(0, 5);
        y.budget(1, 5);
        y.work(0, 1, 1, NONE);
        y.work(1, 1, 1, NONE);
        y.needs(0, 1);
        y.needs(1, 0);
        Check.due("a ring of two years is never chosen", y.choose(), 0);
        Check.due("both", y.lacks(3), NONE);
    }

    private static void needsOneThatClashes() {
        Check.sentence("Terms: a set in which none clash, all have what they need");
        CostYears x = withWorks(3);
        x.needs(0, 1);
        x.clash(0, 1, true);
        Check.due("without", x.lacks(1), NONE);
        Check.due("with", x.lacks(3), NONE);
        Check.due("never", x.choose(), 2);
        Check.due("the others", choice(x, 3), 6);
    }
}
