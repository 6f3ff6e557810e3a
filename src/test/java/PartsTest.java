/** Promises 4 to 9: part, moves, care, share, cares, most. */
public final class PartsTest {
    private static final int NONE = CostYears.NONE;

    public static void main(String[] args) {
        part();
        moves();
        care();
        share();
        shareRenewed();
        wearIsToldAnew();
        cares();
        most();
        Check.end();
    }

    private static void part() {
        CostYears x = new CostYears(2);
        Check.illegalArgument("part(1, 0)", () -> x.part(1, 0));
        Check.illegalArgument("part(5, 0)", () -> x.part(5, 0));
        Check.illegalArgument("part(MIN, 0)", () -> x.part(Integer.MIN_VALUE, 0));
        Check.illegalArgument("part(2, 2)", () -> x.part(2, 2));
        Check.illegalArgument("part(3, -1)", () -> x.part(3, -1));
        Check.illegalArgument("part(4, 4)", () -> x.part(4, 4));
        Check.illegalArgument("no part yet", () -> x.most(0, 0));
        for (int number = 0; number < 12; number++) {
            int states = 2 + number % 3;
            Check.due("part " + number, x.part(states, number % states), number);
        }
        Check.illegalState("a thirteenth part", () -> x.part(2, 0));
        Check.illegalArgument("a thirteenth, of wrong states", () -> x.part(1, 0));
        Check.illegalArgument("a thirteenth, of a wrong start", () -> x.part(2, 2));
        for (int number = 0; number < 12; number++) {
            int states = 2 + number % 3;
            for (int state = 0; state < states; state++) {
                long want = state == number % states ? 1 : 0;
                Check.due("share at first", x.share(number, state, 0), want);
                Check.due("all stays at first", x.share(number, state, 1), 16 * want);
            }
            int part = number;
            Check.illegalArgument("a state too many", () -> x.share(part, states, 0));
        }
        Check.illegalArgument("share of part 12", () -> x.share(12, 0, 0));
    }

    private static void moves() {
        CostYears x = new CostYears(3);
        x.part(3, 0);
        Check.due("moves(0, 0, 1, 10)", x.moves(0, 0, 1, 10), 0);
        Check.due("moves(0, 0, 2, 6): 16 in all", x.moves(0, 0, 2, 6), 0);
        Check.illegalArgument("17 in all", () -> x.moves(0, 0, 2, 7));
        Check.illegalArgument("17 in all, by the other", () -> x.moves(0, 0, 1, 11));
        Check.illegalArgument("17 sixteenths", () -> x.moves(0, 1, 0, 17));
        Check.illegalArgument("-1 sixteenths", () -> x.moves(0, 1, 0, -1));
        Check.illegalArgument("MIN sixteenths", () -> x.moves(0, 1, 0, Integer.MIN_VALUE));
        Check.illegalArgument("from a state to itself", () -> x.moves(0, 1, 1, 1));
        Check.illegalArgument("from a state to itself, 0", () -> x.moves(0, 1, 1, 0));
        Check.illegalArgument("from state 3", () -> x.moves(0, 3, 1, 1));
        Check.illegalArgument("to state 3", () -> x.moves(0, 1, 3, 1));
        Check.illegalArgument("from state -1", () -> x.moves(0, -1, 1, 1));
        Check.illegalArgument("to state -1", () -> x.moves(0, 1, -1, 1));
        Check.illegalArgument("part 1", () -> x.moves(1, 0, 1, 1));
        Check.illegalArgument("part -1", () -> x.moves(-1, 0, 1, 1));
        Check.due("refused ones changed nothing", x.share(0, 0, 1), 0);
        Check.due("refused ones changed nothing", x.share(0, 1, 1), 10);
        Check.due("refused ones changed nothing", x.share(0, 2, 1), 6);
        Check.due("fewer go", x.moves(0, 0, 1, 9), 10);
        Check.due("so more may go elsewhere", x.moves(0, 0, 2, 7), 6);
        Check.due("the same again", x.moves(0, 0, 2, 7), 7);
        Check.due("all 16", x.moves(0, 1, 2, 16), 0);
        Check.due("none", x.moves(0, 1, 2, 0), 16);
        Check.due("all 16 elsewhere", x.moves(0, 1, 0, 16), 0);
        Check.due("share(0, 0, 2)", x.share(0, 0, 2), 9 * 16);
        Check.due("share(0, 1, 2)", x.share(0, 1, 2), 0);
        Check.due("share(0, 2, 2)", x.share(0, 2, 2), 7 * 16);
    }

    private static void care() {
        CostYears x = new CostYears(2);
        x.part(2, 1);
        x.part(4, 3);
        Check.due("care(0, 1, 1000)", x.care(0, 1, 1000), 0);
        Check.due("care(0, 1, 0)", x.care(0, 1, 0), 1000);
        Check.due("care(0, 1, 7)", x.care(0, 1, 7), 0);
        Check.illegalArgument("care(0, 1, 1001)", () -> x.care(0, 1, 1001));
        Check.illegalArgument("care(0, 1, -1)", () -> x.care(0, 1, -1));
        Check.illegalArgument("care(0, 2, 1)", () -> x.care(0, 2, 1));
        Check.illegalArgument("care(0, -1, 1)", () -> x.care(0, -1, 1));
        Check.illegalArgument("care(2, 0, 1)", () -> x.care(2, 0, 1));
        Check.illegalArgument("care(-1, 0, 1)", () -> x.care(-1, 0, 1));
        Check.due("each part and state has its own", x.care(0, 0, 3), 0);
        Check.due("each part and state has its own", x.care(1, 3, 9), 0);
        Check.due("refused ones changed nothing", x.care(0, 1, 8), 7);
        Check.due("care is taken", x.cares(0, 0), 8);
        Check.due("care is taken", x.cares(1, 1), 9);
    }

    private static void share() {
        CostYears x = new CostYears(12);
        x.part(2, 0);
        x.moves(0, 0, 1, 16);
        x.moves(0, 1, 0, 16);
        Check.due("16^11", x.share(0, 1, 11), 17592186044416L);
        Check.due("nothing left", x.share(0, 0, 11), 0);
        Check.due("16^10", x.share(0, 0, 10), 1099511627776L);
        x.part(2, 1);
        x.moves(1, 1, 0, 1);
        Check.due("15^11", x.share(1, 1, 11), 8649755859375L);
        Check.due("16^11 - 15^11", x.share(1, 0, 11), 8942430185041L);
        x.part(4, 2);
        x.moves(2, 2, 0, 3);
        x.moves(2, 2, 3, 5);
        x.moves(2, 0, 1, 2);
        x.moves(2, 1, 2, 1);
        for (int year = 0; year < 12; year++) {
            long sum = 0;
            for (int state = 0; state < 4; state++) {
                sum += x.share(2, state, year);
            }
            Check.due("all shares of year " + year, sum, 1L << 4 * year);
        }
        Check.due("share(2, 2, 2)", x.share(2, 2, 2), 8 * 8);
        Check.due("share(2, 0, 2)", x.share(2, 0, 2), 8 * 3 + 3 * 14);
        Check.due("share(2, 1, 2)", x.share(2, 1, 2), 3 * 2);
        Check.due("share(2, 3, 2)", x.share(2, 3, 2), 8 * 5 + 5 * 16);
        Check.illegalArgument("share(3, 0, 0)", () -> x.share(3, 0, 0));
        Check.illegalArgument("share(-1, 0, 0)", () -> x.share(-1, 0, 0));
        Check.illegalArgument("share(0, 2, 0)", () -> x.share(0, 2, 0));
        Check.illegalArgument("share(0, -1, 0)", () -> x.share(0, -1, 0));
        Check.illegalArgument("share(0, 0, 12)", () -> x.share(0, 0, 12));
        Check.illegalArgument("share(0, 0, -1)", () -> x.share(0, 0, -1));
    }

    private static void shareRenewed() {
        CostYears x = new CostYears(6);
        x.part(2, 0);
        x.part(2, 0);
        x.moves(0, 0, 1, 4);
        x.moves(1, 0, 1, 4);
        x.work(2, 10, 5, 0);
        x.work(4, 10, 5, 0);
        x.work(3, 10, 5, NONE);
        x.work(0, 10, 5, 1);
        x.budget(2, 10);
        x.budget(3, 10);
        x.budget(4, 9);
        Check.due("not yet chosen", x.share(0, 0, 3), 12 * 12 * 12);
        x.choose();
        long[] renewedInTwo = {1, 12, 1, 12, 144, 1728};
        for (int year = 0; year < 6; year++) {
            Check.due("renewed in year 2", x.share(0, 0, year), renewedInTwo[year]);
        }
        Check.due("another part is not renewed", x.share(1, 0, 3), 1728);
        x.budget(4, 10);
        Check.due("the choice made last holds", x.share(0, 0, 4), 144);
        x.choose();
        long[] renewedTwice = {1, 12, 1, 12, 1, 12};
        for (int year = 0; year < 6; year++) {
            Check.due("renewed in years 2 and 4", x.share(0, 0, year), renewedTwice[year]);
        }
        x.budget(0, 10);
        x.budget(2, 0);
        x.choose();
        Check.due("no longer in year 2", x.share(0, 0, 3), 1728);
        Check.due("renewed in year 0 is as in the beginning", x.share(1, 0, 3), 1728);
        Check.due("still in year 4", x.share(0, 0, 5), 12);
    }

    private static void wearIsToldAnew() {
        CostYears x = new CostYears(3);
        x.part(4, 3);
        x.part(2, 0);
        x.moves(0, 3, 2, 16);
        x.moves(1, 0, 1, 3);
        Check.due("share(0, 2, 2)", x.share(0, 2, 2), 256);
        Check.due("of part 1, behind part 0", x.share(1, 0, 2), 169);
        Check.due("of part 1, behind part 0", x.share(1, 1, 2), 13 * 3 + 3 * 16);
        x.moves(1, 0, 1, 8);
        Check.due("by what is told now", x.share(1, 0, 2), 64);
        Check.due("most behind a part of more states", x.most(1, 1), 1);
    }

    private static void cares() {
        CostYears x = new CostYears(12);
        x.part(2, 0);
        x.moves(0, 0, 1, 8);
        x.care(0, 0, 1);
        x.care(0, 1, 2);
        Check.due("1 in year 0", x.cares(0, 0), 1);
        Check.due("1.5, rounded down", x.cares(0, 1), 1);
        x.index(1, 2000);
        Check.due("rounded down ahead of the index", x.cares(0, 1), 2);
        x.index(0, 999);
        Check.due("rounded down behind the index", x.cares(0, 0), 0);
        x.care(0, 0, 1000);
        x.care(0, 1, 1000);
        x.index(11, 2000);
        Check.due("the most", x.cares(0, 11), 2000);
        x.index(11, 1999);
        x.care(0, 0, 999);
        Check.due("999.99.. of 1.999", x.cares(0, 11), 1997);
        x.care(0, 0, 16);
        x.care(0, 1, 0);
        x.work(2, 1, 1, 0);
        x.budget(2, 1);
        Check.due("4 in year 2", x.cares(0, 2), 4);
        x.choose();
        Check.due("16, renewed", x.cares(0, 2), 16);
        Check.due("8 behind it", x.cares(0, 3), 8);
        Check.illegalArgument("cares(1, 0)", () -> x.cares(1, 0));
        Check.illegalArgument("cares(-1, 0)", () -> x.cares(-1, 0));
        Check.illegalArgument("cares(0, 12)", () -> x.cares(0, 12));
        Check.illegalArgument("cares(0, -1)", () -> x.cares(0, -1));
    }

    private static void most() {
        CostYears x = new CostYears(4);
        x.part(4, 1);
        Check.due("the start", x.most(0, 0), 1);
        x.moves(0, 1, 0, 8);
        Check.due("of 0 and 1 alike 1", x.most(0, 1), 1);
        x.moves(0, 1, 0, 9);
        Check.due("0 has the most", x.most(0, 1), 0);
        x.moves(0, 1, 0, 5);
        x.moves(0, 1, 3, 5);
        Check.due("6 stay", x.most(0, 1), 1);
        x.moves(0, 1, 2, 1);
        Check.due("of 0, 1 and 3 alike 3", x.most(0, 1), 3);
        x.work(1, 1, 1, 0);
        x.budget(1, 1);
        x.choose();
        Check.due("renewed", x.most(0, 1), 1);
        Check.due("a year behind it", x.most(0, 2), 3);
        Check.illegalArgument("most(1, 0)", () -> x.most(1, 0));
        Check.illegalArgument("most(-1, 0)", () -> x.most(-1, 0));
        Check.illegalArgument("most(0, 4)", () -> x.most(0, 4));
        Check.illegalArgument("most(0, -1)", () -> x.most(0, -1));
    }
}
