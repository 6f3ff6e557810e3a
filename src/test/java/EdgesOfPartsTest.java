/** The boundary cases of promises 4 to 9 and of the terms about parts, a sentence at a time. */
public final class EdgesOfPartsTest {
    private static final int NONE = CostYears.NONE;

    public static void main(String[] args) {
        partsAre0To11();
        statesAre2To4();
        startIsAState();
        thereAre12();
        partsOfEachCall();
        statesOfEachCall();
        sixteenthsAreWithin();
        atMost16Go();
        notFromAStateToItself();
        movesAnswersHowManyDid();
        whatIsLeftStays();
        goesFromEachYearToTheNext();
        careIsWithin();
        careIs0AtFirst();
        careAnswersWhatItWas();
        beginsWhollyInItsStart();
        beginsWhereRenewed();
        renewedMoreThanOnce();
        notRenewedByOthers();
        wornByWhatIsToldNow();
        sharesAreAllTogether();
        sharesAtTheMost();
        careIsRoundedDown();
        careCosts();
        careIsRoundedDownTwice();
        mostOfAlikeOnes();
        mostAtTheEdges();
        Check.end();
    }

    private static CostYears withPart(int years, int states, int start) {
        CostYears x = new CostYears(years);
        x.part(states, start);
        return x;
    }

    private static CostYears withParts(int count) {
        CostYears x = new CostYears(3);
        for (int part = 0; part < count; part++) {
            x.part(2, 0);
        }
        return x;
    }

    private static void partsAre0To11() {
        Check.sentence("Terms: PARTS are 0 .. 11; promise 4: its number");
        CostYears x = new CostYears(1);
        for (int part = 0; part < 12; part++) {
            int next = part;
            Check.illegalArgument("there is no part " + part, () -> x.most(next, 0));
            Check.due("part " + part, x.part(4, part % 4), part);
            Check.due("its start", x.most(part, 0), part % 4);
        }
        for (int part = 0; part < 12; part++) {
            Check.due("still its start", x.most(part, 0), part % 4);
        }
        Check.illegalArgument("there is no part 12", () -> x.most(12, 0));
    }

    private static void statesAre2To4() {
        Check.sentence("Terms: each with 2 .. 4 STATES");
        Check.bounds("states", 2, 4, s -> new CostYears(1).part(s, 0));
        int[] wrong = {1, 0, -1, -2, 5, 6, 16};
        for (int states : wrong) {
            CostYears x = new CostYears(1);
            Check.illegalArgument("part(" + states + ", 0)", () -> x.part(states, 0));
            Check.illegalArgument("there is no part behind that", () -> x.most(0, 0));
            Check.due("the next one's number", x.part(2, 0), 0);
        }
    }

    private static void startIsAState() {
        Check.sentence("Promise 4: illegal argument: also if start is no state");
        for (int states = 2; states <= 4; states++) {
            int count = states;
            Check.bounds("start of " + states, 0, states - 1, s -> new CostYears(1).part(count, s));
            CostYears x = new CostYears(1);
            Check.illegalArgument("start = states", () -> x.part(count, count));
            Check.illegalArgument("start = -1", () -> x.part(count, -1));
            Check.illegalArgument("there is no part behind that", () -> x.share(0, 0, 0));
            Check.due("the next one's number", x.part(states, states - 1), 0);
        }
        Check.illegalArgument("both are wrong", () -> new CostYears(1).part(5, 4));
        Check.illegalArgument("both are wrong", () -> new CostYears(1).part(1, 1));
        Check.illegalArgument("both are wrong", () -> new CostYears(1).part(0, -1));
    }

    private static void thereAre12() {
        Check.sentence("Promise 4: illegal state: there are 12");
        CostYears x = withParts(11);
        Check.due("the twelfth", x.part(4, 3), 11);
        for (int time = 0; time < 3; time++) {
            Check.illegalState("a thirteenth of 2 states", () -> x.part(2, 0));
            Check.illegalState("a thirteenth of 4 states", () -> x.part(4, 3));
            Check.illegalArgument("there is no part 12", () -> x.share(12, 0, 0));
        }
        Check.due("the twelfth is as it was", x.share(11, 3, 0), 1);
        Check.due("the first is as it was", x.share(0, 0, 0), 1);
        Check.illegalArgument("the first has 2 states", () -> x.share(0, 2, 0));
        Check.sentence("Terms: of several exceptions the one named first is thrown");
        Check.illegalArgument("a thirteenth of 1 state", () -> x.part(1, 0));
        Check.illegalArgument("a thirteenth of 5 states", () -> x.part(5, 0));
        Check.illegalArgument("a thirteenth with start 2 of 2", () -> x.part(2, 2));
        Check.illegalArgument("a thirteenth with start -1", () -> x.part(4, -1));
        Check.illegalArgument("a thirteenth, all wrong", () -> x.part(Integer.MIN_VALUE, -1));
    }

    private static void partsOfEachCall() {
        Check.sentence("Terms: illegal argument: there is no such thing (a part)");
        int[] counts = {1, 2, 11, 12};
        for (int count : counts) {
            int last = count - 1;
            String of = " of " + count;
            Check.bounds("moves's part" + of, 0, last, p -> withParts(count).moves(p, 0, 1, 1));
            Check.bounds("care's part" + of, 0, last, p -> withParts(count).care(p, 0, 1));
            Check.bounds("share's part" + of, 0, last, p -> withParts(count).share(p, 0, 0));
            Check.bounds("cares's part" + of, 0, last, p -> withParts(count).cares(p, 0));
            Check.bounds("most's part" + of, 0, last, p -> withParts(count).most(p, 0));
        }
    }

    private static void statesOfEachCall() {
        Check.sentence("Terms: illegal argument: there is no such thing (a state)");
        for (int states = 2; states <= 4; states++) {
            int n = states;
            int last = states - 1;
            String of = " of " + states;
            Check.bounds("care's state" + of, 0, last, s -> withPart(2, n, 0).care(0, s, 1));
            Check.bounds("share's state" + of, 0, last, s -> withPart(2, n, 0).share(0, s, 1));
            Check.bounds("moves's to" + of, 1, last, s -> withPart(2, n, 0).moves(0, 0, s, 1));
            Check.bounds("moves's from" + of, 1, last, s -> withPart(2, n, 0).moves(0, s, 0, 1));
            Check.illegalArgument("to no state", () -> withPart(2, n, 0).moves(0, 0, -1, 1));
            Check.illegalArgument("from no state", () -> withPart(2, n, 0).moves(0, -1, 0, 1));
            Check.illegalArgument("neither is one", () -> withPart(2, n, 0).moves(0, n, n + 1, 0));
        }
    }

    private static void sixteenthsAreWithin() {
        Check.sentence("Promise 5: so many sixteenths (0 .. 16)");
        for (int states = 2; states <= 4; states++) {
            int n = states;
            Check.bounds("sixteenths", 0, 16, s -> withPart(1, n, 0).moves(0, 0, n - 1, s));
            Check.bounds("sixteenths", 0, 16, s -> withPart(1, n, 0).moves(0, n - 1, 0, s));
        }
        CostYears x = withPart(2, 2, 0);
        Check.illegalArgument("17", () -> x.moves(0, 0, 1, 17));
        Check.illegalArgument("-1", () -> x.moves(0, 0, 1, -1));
        Check.due("none goes behind that", x.share(0, 0, 1), 16);
        x.moves(0, 0, 1, 16);
        Check.illegalArgument("17, where 16 go", () -> x.moves(0, 0, 1, 17));
        Check.illegalArgument("-1, where 16 go", () -> x.moves(0, 0, 1, -1));
        Check.due("all go behind that", x.share(0, 1, 1), 16);
    }

    private static void atMost16Go() {
        Check.sentence("Promise 5: illegal argument: also if more than 16 would go from it");
        CostYears x = withPart(2, 4, 1);
        x.moves(0, 1, 0, 5);
        x.moves(0, 1, 2, 5);
        Check.illegalArgument("5 + 5 + 7", () -> x.moves(0, 1, 3, 7));
        Check.illegalArgument("5 + 5 + 16", () -> x.moves(0, 1, 3, 16));
        Check.due("5 + 5 + 6", x.moves(0, 1, 3, 6), 0);
        Check.illegalArgument("6 + 5 + 6", () -> x.moves(0, 1, 0, 6));
        Check.illegalArgument("5 + 6 + 6", () -> x.moves(0, 1, 2, 6));
        Check.illegalArgument("5 + 5 + 7, where 6 went", () -> x.moves(0, 1, 3, 7));
        Check.due("the shares are as they were", x.share(0, 0, 1), 5);
        Check.due("the shares are as they were", x.share(0, 1, 1), 0);
        Check.due("the shares are as they were", x.share(0, 2, 1), 5);
        Check.due("the shares are as they were", x.share(0, 3, 1), 6);
        Check.due("as many once more", x.moves(0, 1, 3, 6), 6);
        Check.due("fewer", x.moves(0, 1, 3, 0), 6);
        Check.due("so that there is room elsewhere", x.moves(0, 1, 0, 11), 5);
        Check.illegalArgument("11 + 5 + 1", () -> x.moves(0, 1, 3, 1));
        Check.due("from another state 16 may go", x.moves(0, 0, 1, 16), 0);
        Check.due("from yet another one too", x.moves(0, 2, 1, 16), 0);
        Check.due("and from the last", x.moves(0, 3, 1, 16), 0);

        CostYears y = withPart(1, 3, 0);
        y.moves(0, 0, 1, 16);
        Check.due("16 where 16 went", y.moves(0, 0, 1, 16), 16);
        Check.due("0 beside 16", y.moves(0, 0, 2, 0), 0);
        Check.illegalArgument("1 beside 16", () -> y.moves(0, 0, 2, 1));
        Check.due("15", y.moves(0, 0, 1, 15), 16);
        Check.due("1 beside 15", y.moves(0, 0, 2, 1), 0);
        Check.illegalArgument("2 beside 15", () -> y.moves(0, 0, 2, 2));
        y.part(3, 0);
        Check.due("another part has its own", y.moves(1, 0, 1, 16), 0);
    }

    private static void notFromAStateToItself() {
        Check.sentence("Promise 5: illegal argument: also if both are one");
        for (int states = 2; states <= 4; states++) {
            CostYears x = withPart(2, states, states - 1);
            for (int state = 0; state < states; state++) {
                int at = state;
                int[] amounts = {0, 1, 16};
                for (int amount : amounts) {
                    Check.illegalArgument(amount + " from " + at + " to itself",
                        () -> x.moves(0, at, at, amount));
                }
            }
            Check.due("all stays behind that", x.share(0, states - 1, 1), 16);
            Check.due("and 16 may go", x.moves(0, states - 1, 0, 16), 0);
            Check.due("all goes", x.share(0, 0, 1), 16);
        }
    }

    private static void movesAnswersHowManyDid() {
        Check.sentence("Promise 5: how many did");
        CostYears x = new CostYears(1);
        x.part(4, 0);
        x.part(4, 0);
        for (int part = 0; part < 2; part++) {
            for (int from = 0; from < 4; from++) {
                for (int to = 0; to < 4; to++) {
                    if (from != to) {
                        Check.due("none at first", x.moves(part, from, to, 1 + part + to), 0);
                    }
                }
            }
        }
        for (int part = 0; part < 2; part++) {
            for (int from = 0; from < 4; from++) {
                for (int to = 0; to < 4; to++) {
                    if (from != to) {
                        Check.due("as told", x.moves(part, from, to, 0), 1 + part + to);
                        Check.due("none again", x.moves(part, from, to, 0), 0);
                    }
                }
            }
        }
    }

    private static void whatIsLeftStays() {
        Check.sentence("Terms: what is left stays");
        for (int going = 0; going <= 16; going++) {
            CostYears x = withPart(2, 2, 0);
            x.moves(0, 0, 1, going);
            Check.due(going + " go", x.share(0, 1, 1), going);
            Check.due(16 - going + " stay", x.share(0, 0, 1), 16 - going);
        }
        CostYears x = withPart(2, 4, 2);
        x.moves(0, 2, 0, 7);
        x.moves(0, 2, 1, 4);
        x.moves(0, 2, 3, 4);
        Check.due("1 of 16 stays", x.share(0, 2, 1), 1);
        x.moves(0, 2, 3, 5);
        Check.due("none stays", x.share(0, 2, 1), 0);
        x.moves(0, 2, 0, 0);
        Check.due("7 stay", x.share(0, 2, 1), 7);
    }

    /** The sum over all ways from a state to another in so many years, each way's product. */
    private static long allWays(int[][] going, int from, int to, int years) {
        if (years == 0) {
            return from == to ? 1 : 0;
        }
        long sum = 0;
        for (int next = 0; next < going.length; next++) {
            if (going[from][next] > 0) {
                sum += going[from][next] * allWays(going, next, to, years - 1);
            }
        }
        return sum;
    }

    private static void goesFromEachYearToTheNext() {
        Check.sentence("Terms: from a state a share of so many SIXTEENTHS goes to another state"
            + " from each year to the next");
        int[][][] rows = {
            {{13, 3}, {0, 16}}, {{9, 7}, {2, 14}}, {{0, 16}, {11, 5}},
            {{10, 5, 1}, {0, 12, 4}, {0, 0, 16}}, {{1, 7, 8}, {3, 11, 2}, {15, 0, 1}},
            {{4, 1, 9, 2}, {0, 3, 6, 7}, {5, 5, 5, 1}, {2, 13, 0, 1}},
            {{12, 4, 0, 0}, {0, 12, 4, 0}, {0, 0, 12, 4}, {0, 0, 0, 16}}};
        for (int[][] going : rows) {
            for (int start = 0; start < going.length; start++) {
                sharesAre(going, start);
            }
        }
    }

    private static void sharesAre(int[][] going, int start) {
        CostYears x = withPart(12, going.length, start);
        for (int from = 0; from < going.length; from++) {
            for (int to = 0; to < going.length; to++) {
                if (from != to) {
                    x.moves(0, from, to, going[from][to]);
                }
            }
        }
        for (int year = 0; year < 9; year++) {
            for (int state = 0; state < going.length; state++) {
                Check.due("of " + going.length + " states from " + start + " to " + state
                    + " in year " + year, x.share(0, state, year),
                    allWays(going, start, state, year));
            }
        }
    }

    private static void careIsWithin() {
        Check.sentence("Terms: CARE takes cents a year (0 .. 1000)");
        for (int state = 0; state < 4; state++) {
            int at = state;
            Check.bounds("care", 0, 1000, c -> withPart(1, 4, 0).care(0, at, c));
        }
        CostYears x = withPart(1, 2, 0);
        x.care(0, 0, 1000);
        Check.illegalArgument("1001", () -> x.care(0, 0, 1001));
        Check.illegalArgument("-1", () -> x.care(0, 0, -1));
        Check.due("as it was behind that", x.cares(0, 0), 1000);
        Check.due("0 is told", x.care(0, 0, 0), 1000);
        Check.due("and taken", x.cares(0, 0), 0);
    }

    private static void careIs0AtFirst() {
        Check.sentence("Terms: CARE takes cents a year (0 at first)");
        CostYears x = new CostYears(12);
        for (int part = 0; part < 12; part++) {
            x.part(4, part % 4);
            Check.due("cares in year 0", x.cares(part, 0), 0);
            Check.due("cares in year 11", x.cares(part, 11), 0);
            for (int state = 0; state < 4; state++) {
                Check.due("care", x.care(part, state, 1), 0);
            }
        }
        Check.due("no money for it", x.reserve(0), -12);
    }

    private static void careAnswersWhatItWas() {
        Check.sentence("Promise 6: what it was");
        CostYears x = new CostYears(1);
        for (int part = 0; part < 12; part++) {
            x.part(4, 0);
            for (int state = 0; state < 4; state++) {
                x.care(part, state, 1000 - 4 * part - state);
            }
        }
        for (int part = 0; part < 12; part++) {
            for (int state = 0; state < 4; state++) {
                Check.due("as told", x.care(part, state, 7), 1000 - 4 * part - state);
                Check.due("told anew", x.care(part, state, 7), 7);
            }
        }
    }

    private static void beginsWhollyInItsStart() {
        Check.sentence("Terms: a part begins, in year 0, wholly in its START");
        for (int states = 2; states <= 4; states++) {
            for (int start = 0; start < states; start++) {
                CostYears x = withPart(1, states, start);
                for (int state = 0; state < states; state++) {
                    long want = state == start ? 1 : 0;
                    Check.due("share(0, " + state + ", 0)", x.share(0, state, 0), want);
                    if (state != start) {
                        x.moves(0, start, state, 5);
                        x.moves(0, state, start, 16);
                    }
                    Check.due("whatever goes", x.share(0, state, 0), want);
                }
            }
        }
    }

    /** Part 0 goes from state 1 to 0, part 1 likewise; works of 1 cent in the years renew it. */
    private static CostYears renewedIn(int part, int... years) {
        CostYears x = new CostYears(12);
        for (int at = 0; at < 2; at++) {
            x.part(2, 1);
            x.moves(at, 1, 0, 4);
        }
        for (int year : years) {
            x.budget(year, 1000);
            x.work(year, 1, 1, part);
        }
        Check.due("all are chosen", x.choose(), years.length);
        return x;
    }

    private static long powerOf12(int k) {
        long power = 1;
        for (int times = 0; times < k; times++) {
            power *= 12;
        }
        return power;
    }

    private static void shareBehind(CostYears x, int year, int latest) {
        int k = year - latest;
        String at = "in year " + year + ", the latest is " + latest;
        Check.due("share 1 " + at, x.share(0, 1, year), powerOf12(k));
        Check.due("share 0 " + at, x.share(0, 0, year), (1L << 4 * k) - powerOf12(k));
    }

    private static void beginsWhereRenewed() {
        Check.sentence("Terms: and in each year in which it is RENEWED, wholly in its START");
        for (int renewed = 0; renewed < 12; renewed++) {
            CostYears x = renewedIn(0, renewed);
            for (int year = 0; year < 12; year++) {
                shareBehind(x, year, year < renewed ? 0 : renewed);
                Check.due("another part's", x.share(1, 1, year), powerOf12(year));
            }
        }
    }

    private static void renewedMoreThanOnce() {
        Check.sentence("Terms: a year k years behind the latest such one");
        CostYears twice = renewedIn(0, 3, 8);
        CostYears reversed = renewedIn(0, 8, 3);
        CostYears sameYear = renewedIn(0, 3, 3);
        CostYears inARow = renewedIn(0, 4, 5);
        CostYears firstTen = renewedIn(0, 0, 1, 2, 3, 4, 5, 6, 7, 8, 9);
        CostYears lastTen = renewedIn(0, 11, 10, 9, 8, 7, 6, 5, 4, 3, 2);
        for (int year = 0; year < 12; year++) {
            int ofTwo = year < 3 ? 0 : year < 8 ? 3 : 8;
            shareBehind(twice, year, ofTwo);
            shareBehind(reversed, year, ofTwo);
            shareBehind(sameYear, year, year < 3 ? 0 : 3);
            shareBehind(inARow, year, year < 4 ? 0 : year == 4 ? 4 : 5);
            shareBehind(firstTen, year, Math.min(year, 9));
            shareBehind(lastTen, year, year < 2 ? 0 : year);
        }
    }

    private static void notRenewedByOthers() {
        Check.sentence("Promises 7 to 9: renewed by the choice made last");
        CostYears x = renewedIn(NONE, 2, 5);
        shareBehind(x, 11, 0);
        x.care(0, 1, 1000);
        Check.due("work 2 renews part 0, yet is not chosen", x.work(6, 1, 5, 0), 2);
        shareBehind(x, 11, 0);
        Check.due("cares", x.cares(0, 6), 1000 * powerOf12(6) / (1L << 24));
        Check.due("most", x.most(0, 6), 0);
        x.choose();
        Check.due("it has no budget", x.chosen(2), false);
        shareBehind(x, 11, 0);
        x.budget(6, 1);
        shareBehind(x, 11, 0);
        x.choose();
        shareBehind(x, 5, 0);
        shareBehind(x, 6, 6);
        shareBehind(x, 11, 6);
        Check.due("cares, renewed", x.cares(0, 6), 1000);
        Check.due("most, renewed", x.most(0, 6), 1);
        x.budget(6, 0);
        shareBehind(x, 11, 6);
        x.choose();
        shareBehind(x, 6, 0);
        Check.due("cares, no longer", x.cares(0, 6), 1000 * powerOf12(6) / (1L << 24));
        Check.due("most, no longer", x.most(0, 6), 0);
    }

    private static void wornByWhatIsToldNow() {
        Check.sentence("Promises 7 to 9: renewed by the choice made last, worn by what is told");
        CostYears x = renewedIn(0, 3);
        x.care(0, 1, 160);
        Check.due("most, a year behind it", x.most(0, 4), 1);
        Check.due("cares, a year behind it", x.cares(0, 4), 120);
        x.moves(0, 1, 0, 15);
        Check.due("share, told anew", x.share(0, 1, 4), 1);
        Check.due("share, told anew, ahead of it", x.share(0, 1, 2), 1);
        Check.due("share, told anew, ahead of it", x.share(0, 0, 2), 255);
        Check.due("share, still renewed", x.share(0, 1, 3), 1);
        Check.due("share, still renewed", x.share(0, 0, 3), 0);
        Check.due("most, told anew", x.most(0, 4), 0);
        Check.due("cares, told anew", x.cares(0, 4), 10);
        x.care(0, 0, 16);
        Check.due("care is told anew", x.cares(0, 4), 25);
        x.index(4, 2000);
        Check.due("the index is told anew", x.cares(0, 4), 50);
        Check.due("that of another year is not", x.cares(0, 5), 16);
        x.moves(0, 1, 0, 0);
        Check.due("nothing goes any more", x.share(0, 1, 11), 1L << 32);
        Check.due("the part that is not renewed is as it was", x.share(1, 1, 4), powerOf12(4));
    }

    private static void sharesAreAllTogether() {
        Check.sentence("Terms: one for each state, all together 16^k");
        for (int states = 2; states <= 4; states++) {
            CostYears x = withPart(12, states, 0);
            for (int from = 0; from < states; from++) {
                for (int to = 0; to < states; to++) {
                    if (from != to) {
                        x.moves(0, from, to, 5 - from);
                    }
                }
            }
            for (int year = 0; year < 12; year++) {
                long sum = 0;
                for (int state = 0; state < states; state++) {
                    sum += x.share(0, state, year);
                }
                Check.due("all shares in year " + year, sum, 1L << 4 * year);
            }
        }
    }

    private static void sharesAtTheMost() {
        Check.sentence("Terms: its SHARES are numbers over 16^k, at k = 11");
        CostYears x = withPart(12, 4, 3);
        Check.due("all stays", x.share(0, 3, 11), 17592186044416L);
        Check.due("nothing elsewhere", x.share(0, 0, 11), 0);
        x.moves(0, 3, 0, 16);
        x.moves(0, 0, 1, 16);
        x.moves(0, 1, 2, 16);
        x.moves(0, 2, 3, 16);
        long whole = 1;
        for (int year = 0; year < 12; year++) {
            for (int state = 0; state < 4; state++) {
                boolean isThere = (state + 1) % 4 == year % 4;
                Check.due("all go in turn", x.share(0, state, year), isThere ? whole : 0);
            }
            whole *= 16;
        }
        CostYears y = withPart(12, 2, 0);
        y.moves(0, 0, 1, 15);
        Check.due("the least that is left", y.share(0, 0, 11), 1);
        Check.due("all but that", y.share(0, 1, 11), 17592186044415L);
    }

    private static void careIsRoundedDown() {
        Check.sentence("Terms: the sum of shares times the states' care, / 16^k, rounded down");
        CostYears x = withPart(12, 2, 0);
        x.moves(0, 0, 1, 15);
        x.care(0, 0, 0);
        x.care(0, 1, 16);
        Check.due("15 * 16 / 16", x.cares(0, 1), 15);
        x.care(0, 1, 17);
        Check.due("15 * 17 / 16 = 15.9..", x.cares(0, 1), 15);
        x.care(0, 0, 1);
        Check.due("(15 * 17 + 1) / 16 = 16", x.cares(0, 1), 16);
        x.care(0, 0, 0);
        x.care(0, 1, 1000);
        Check.due("1000, but for a 16^11th part", x.cares(0, 11), 999);
        x.care(0, 0, 999);
        Check.due("1000, but for less", x.cares(0, 11), 999);
        x.care(0, 0, 1000);
        Check.due("just 1000", x.cares(0, 11), 1000);
        x.care(0, 0, 1);
        x.care(0, 1, 0);
        Check.due("a 16^11th part of 1", x.cares(0, 11), 0);
        Check.due("1 in year 0", x.cares(0, 0), 1);
    }

    private static void careCosts() {
        Check.sentence("Promise 8: what a part's care COSTS in a year");
        int[][] careIndexCost = {
            {0, 2000, 0}, {1, 500, 0}, {1, 999, 0}, {1, 1000, 1}, {1, 1999, 1}, {1, 2000, 2},
            {1000, 500, 500}, {1000, 2000, 2000}, {999, 1001, 999}, {999, 1999, 1997}};
        for (int[] row : careIndexCost) {
            for (int year = 0; year < 12; year += 11) {
                CostYears x = withPart(12, 3, 1);
                x.care(0, 1, row[0]);
                x.index(year, row[1]);
                Check.due(row[0] + " at " + row[1], x.cares(0, year), row[2]);
                Check.due("another year has its own", x.cares(0, 5), row[0]);
            }
        }
        CostYears x = withPart(2, 2, 0);
        x.moves(0, 0, 1, 8);
        x.care(0, 1, 3);
        x.index(1, 2000);
        Check.due("1.5 is 1 ahead of the index", x.cares(0, 1), 2);
        x.index(1, 999);
        Check.due("1 at 999 is 0", x.cares(0, 1), 0);
    }

    private static void careIsRoundedDownTwice() {
        Check.sentence("Terms: its CARE is rounded down (for the year's INDEX it costs more or"
            + " less); an amount of cents COSTS amount * INDEX / 1000, rounded down");
        // Sixteenths that go to state 1, its care, the index, the cost. Rounded down once at the
        // end all of these would cost a cent more.
        int[][] goingCareIndexCost = {
            {8, 3, 2000, 2}, {8, 3, 1500, 1}, {8, 3, 1999, 1}, {8, 1, 2000, 0},
            {15, 1000, 2000, 1874}, {15, 1000, 1999, 1873}, {15, 999, 1800, 1684},
            {1, 31, 1033, 1}, {5, 991, 970, 299}};
        for (int[] row : goingCareIndexCost) {
            CostYears x = withPart(2, 2, 0);
            x.moves(0, 0, 1, row[0]);
            x.care(0, 1, row[1]);
            x.index(1, row[2]);
            String told = java.util.Arrays.toString(row);
            long once = (long) row[0] * row[1] * row[2] / 16000;
            Check.due(told + " tells the two readings apart", once, row[3] + 1);
            Check.due(told + ": cares(0, 1)", x.cares(0, 1), row[3]);
            Check.due(told + ": reserve(1)", x.reserve(1), -row[3]);
        }
    }

    private static void mostOfAlikeOnes() {
        Check.sentence("Promise 9: of alike ones the greatest state");
        // What goes from the start to states 0 .. 3 (of the start itself: stays), and the answer.
        int[][] startGoingMost = {
            {0, 8, 8, 0, 0, 1}, {0, 8, 0, 8, 0, 2}, {0, 8, 0, 0, 8, 3}, {1, 0, 8, 8, 0, 2},
            {1, 0, 8, 0, 8, 3}, {2, 0, 0, 8, 8, 3}, {3, 8, 8, 0, 0, 1}, {0, 4, 4, 4, 4, 3},
            {0, 5, 5, 5, 1, 2}, {0, 5, 5, 1, 5, 3}, {0, 5, 1, 5, 5, 3}, {3, 1, 5, 5, 5, 3},
            {0, 9, 7, 0, 0, 0}, {0, 7, 9, 0, 0, 1}, {0, 5, 4, 4, 3, 0}, {1, 4, 5, 4, 3, 1},
            {2, 4, 4, 5, 3, 2}, {3, 4, 4, 3, 5, 3}, {2, 6, 6, 4, 0, 1}, {3, 6, 4, 6, 0, 2}};
        for (int[] row : startGoingMost) {
            int start = row[0];
            CostYears x = withPart(2, 4, start);
            for (int state = 0; state < 4; state++) {
                if (state != start) {
                    x.moves(0, start, state, row[1 + state]);
                }
            }
            Check.due(java.util.Arrays.toString(row), x.most(0, 1), row[5]);
            Check.due("in year 0", x.most(0, 0), start);
        }
        CostYears two = withPart(2, 2, 0);
        two.moves(0, 0, 1, 8);
        Check.due("two of two", two.most(0, 1), 1);
        two.moves(0, 0, 1, 7);
        Check.due("a sixteenth less", two.most(0, 1), 0);
        CostYears three = withPart(2, 3, 2);
        three.moves(0, 2, 0, 6);
        three.moves(0, 2, 1, 5);
        Check.due("of three states", three.most(0, 1), 0);
        three.moves(0, 2, 1, 6);
        Check.due("two of three", three.most(0, 1), 1);
    }

    private static void mostAtTheEdges() {
        Check.sentence("Promise 9: the state of which a part's share is the greatest in a year");
        CostYears x = withPart(12, 4, 0);
        for (int year = 0; year < 12; year++) {
            Check.due("all stays", x.most(0, year), 0);
        }
        x.moves(0, 0, 3, 1);
        int[] want = {0, 0, 0, 0, 0, 0, 0, 0, 0, 0, 0, 3};
        for (int year = 0; year < 12; year++) {
            Check.due("15^" + year + " are left", x.most(0, year), want[year]);
        }
    }
}
