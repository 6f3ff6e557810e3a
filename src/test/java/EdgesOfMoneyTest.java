import java.math.BigInteger;

/** The boundary cases of promises 18 to 22 and of the terms about money, a sentence at a time. */
public final class EdgesOfMoneyTest {
    private static final int NONE = CostYears.NONE;
    private static final int MOST = 1000000000;

    public static void main(String[] args) {
        moneyIsWithin();
        bothAre0AtFirst();
        moneyIsToldAnew();
        whatWasThereBefore();
        lessWhatWorksCost();
        lessWhatCareCosts();
        careRenewed();
        reserveByWhatIsToldNow();
        careOfAsManyAsMayBe();
        theMostAndTheLeast();
        shortBelow0();
        shortInTheFirst();
        shortInNone();
        loanIsWithin();
        kIsWithin();
        paymentIsTheLeast();
        roundedUp();
        restBelow0CountsAs0();
        paidIn1Year();
        noRate();
        theGreatestLoans();
        loansChangeNothing();
        Check.end();
    }

    private static void moneyIsWithin() {
        Check.sentence("Promise 18: (0 .. 10^9 each)");
        Check.bounds("beginning", 0, MOST, b -> new CostYears(1).money(b, 0));
        Check.bounds("beginning", 0, MOST, b -> new CostYears(1).money(b, MOST));
        Check.bounds("deposit", 0, MOST, d -> new CostYears(1).money(0, d));
        Check.bounds("deposit", 0, MOST, d -> new CostYears(1).money(MOST, d));
        int[] wrong = {-1, -MOST, MOST + 1, 2000000000, Integer.MIN_VALUE, Integer.MAX_VALUE};
        for (int cents : wrong) {
            CostYears x = new CostYears(2);
            x.money(7, 5);
            Check.illegalArgument("a wrong beginning: " + cents, () -> x.money(cents, 1));
            Check.due("reserve(0) as it was", x.reserve(0), 12);
            Check.due("reserve(1) as it was", x.reserve(1), 17);
            Check.illegalArgument("a wrong deposit: " + cents, () -> x.money(1, cents));
            Check.illegalArgument("both wrong: " + cents, () -> x.money(cents, cents));
            Check.due("reserve(0) as it was", x.reserve(0), 12);
            Check.due("reserve(1) as it was", x.reserve(1), 17);
        }
    }

    private static void bothAre0AtFirst() {
        Check.sentence("Promise 18: both 0 at first");
        for (int years = 1; years <= 12; years++) {
            CostYears x = new CostYears(years);
            for (int year = 0; year < years; year++) {
                Check.due("reserve(" + year + ")", x.reserve(year), 0);
            }
            Check.due("shortIn()", x.shortIn(), NONE);
        }
    }

    private static void moneyIsToldAnew() {
        Check.sentence("Promise 18: what is there at the BEGINNING, and the DEPOSIT");
        CostYears x = new CostYears(3);
        int[][] told = {{0, 1}, {1, 0}, {5, 7}, {MOST, 0}, {0, MOST}, {MOST, MOST}, {0, 0}};
        for (int[] row : told) {
            x.money(row[0], row[1]);
            for (int year = 0; year < 3; year++) {
                long want = row[0] + (year + 1L) * row[1];
                Check.due(row[0] + ", " + row[1] + ": " + year, x.reserve(year), want);
            }
        }
    }

    private static void whatWasThereBefore() {
        Check.sentence("Terms: what was there before (the BEGINNING in year 0, else that of the"
            + " year before)");
        CostYears x = new CostYears(12);
        x.money(100, 10);
        for (int year = 11; year >= 0; year--) {
            Check.due("asked backwards, " + year, x.reserve(year), 110 + 10 * year);
        }
        for (int year = 0; year < 12; year++) {
            Check.due("asked forwards, " + year, x.reserve(year), 110 + 10 * year);
            Check.due("asked twice, " + year, x.reserve(year), 110 + 10 * year);
        }
        CostYears one = new CostYears(1);
        one.money(100, 10);
        Check.due("of one year", one.reserve(0), 110);
        x.part(2, 0);
        x.care(0, 0, 200);
        Check.due("below 0 it goes on", x.reserve(1), 110 - 200 + 10 - 200);
        Check.due("up to the last", x.reserve(11), 100 + 12 * (10 - 200));
    }

    private static void lessWhatWorksCost() {
        Check.sentence("Terms: less what the year's works of the choice made last cost");
        CostYears x = new CostYears(3);
        x.money(1000, 0);
        x.work(0, 100, 1, NONE);
        x.work(2, 10, 1, NONE);
        x.work(2, 10, 1, NONE);
        Check.due("no choice yet", x.reserve(2), 1000);
        x.budget(0, 99);
        x.budget(2, 20);
        x.choose();
        Check.due("not chosen in year 0", x.reserve(0), 1000);
        Check.due("nothing in year 1", x.reserve(1), 1000);
        Check.due("two in year 2", x.reserve(2), 980);
        x.join(1, 2, 1);
        Check.due("joined by what is told now", x.reserve(2), 981);
        x.join(1, 2, 21);
        Check.due("not below 0", x.reserve(2), 1000);
        x.budget(0, 100);
        Check.due("not made anew", x.reserve(0), 1000);
        x.choose();
        Check.due("made anew", x.reserve(0), 900);
        Check.due("and in the years behind it", x.reserve(2), 900);
    }

    private static void lessWhatCareCosts() {
        Check.sentence("Terms: less what the care of all parts costs (part by part)");
        CostYears x = new CostYears(2);
        x.money(100, 0);
        for (int part = 0; part < 12; part++) {
            x.part(2, 0);
            x.moves(part, 0, 1, 15);
            x.care(part, 0, 1);
            x.care(part, 1, 2);
        }
        Check.due("12 times 1", x.reserve(0), 88);
        Check.due("12 times 1.9.. are 12 times 1", x.reserve(1), 76);
        x.index(0, 999);
        Check.due("12 times 0.999 are 0", x.reserve(0), 100);
        x.index(1, 1999);
        Check.due("12 times 1.999 are 12 times 1", x.reserve(1), 88);
        x.index(1, 2000);
        Check.due("12 times 2", x.reserve(1), 76);
        x.care(11, 1, 1000);
        Check.due("the last part's 937.5.. are 937, twice", x.reserve(1), 100 - 22 - 2 * 937);
    }

    private static void careRenewed() {
        Check.sentence("Terms: the care of all parts, renewed by the chosen works");
        CostYears x = new CostYears(4);
        x.part(2, 0);
        x.part(2, 0);
        for (int part = 0; part < 2; part++) {
            x.moves(part, 0, 1, 16);
            x.care(part, 1, 100 + part);
        }
        Check.due("worn from year 1", x.reserve(0), 0);
        Check.due("worn from year 1", x.reserve(3), -603);
        x.index(3, 500);
        x.work(3, 1, 1, 0);
        Check.due("not chosen yet", x.reserve(3), -402 - 50 - 50);
        x.choose();
        Check.due("renewed in the last year", x.reserve(3), -402 - 50);
        Check.due("as before in the year before", x.reserve(2), -402);
    }

    private static void reserveByWhatIsToldNow() {
        Check.sentence("Terms: less what the works of the choice made last cost, less what the care"
            + " costs, by what is told now");
        CostYears x = new CostYears(3);
        x.part(2, 0);
        x.moves(0, 0, 1, 8);
        x.care(0, 1, 100);
        x.work(1, 30, 1, 0);
        x.work(1, 30, 1, NONE);
        x.budget(1, 60);
        x.money(1000, 0);
        x.choose();
        Check.due("1000 - 60 - 50", x.reserve(2), 890);
        x.index(1, 1500);
        Check.due("1000 - 90 - 50", x.reserve(2), 860);
        x.index(2, 500);
        Check.due("1000 - 90 - 25", x.reserve(2), 885);
        x.join(1, 0, 40);
        Check.due("1000 - 50 - 25", x.reserve(2), 925);
        x.moves(0, 0, 1, 16);
        Check.due("1000 - 50 - 50", x.reserve(2), 900);
        x.care(0, 0, 7);
        Check.due("1000 - 7 - 50 - 10 - 50", x.reserve(2), 883);
        x.clash(0, 1, true);
        x.needs(1, 0);
        x.budget(1, 0);
        Check.due("the choice made last stays", x.reserve(2), 883);
        x.work(0, 1, 9, 0);
        Check.due("a work told now is not chosen", x.reserve(2), 883);
        x.part(2, 1);
        x.care(1, 1, 20);
        Check.due("a part told now has care: 20 + 30 + 10 less", x.reserve(2), 823);
        Check.due("in year 0", x.reserve(0), 973);
        x.choose();
        Check.due("chosen anew: 27, 150 + 30, 50 + 10 less", x.reserve(2), 733);
    }

    private static void careOfAsManyAsMayBe() {
        Check.sentence("Terms: THE RESERVE, of an object with as many as there may be");
        CostYears x = new CostYears(12);
        for (int year = 0; year < 12; year++) {
            x.index(year, 2000);
            x.budget(year, 20000000);
            x.part(4, 3);
            x.care(year, 3, 1000);
        }
        for (int work = 0; work < 10; work++) {
            x.work(11, 1000000, 1, work);
        }
        Check.due("choose()", x.choose(), 10);
        for (int year = 0; year < 12; year++) {
            long want = -24000L * (year + 1) - (year == 11 ? 20000000 : 0);
            Check.due("reserve(" + year + ")", x.reserve(year), want);
        }
        Check.due("shortIn()", x.shortIn(), 0);
    }

    private static void theMostAndTheLeast() {
        Check.sentence("Promise 19: THE RESERVE of a year, beyond what an int holds");
        CostYears x = new CostYears(12);
        x.money(MOST, MOST);
        for (int year = 0; year < 12; year++) {
            Check.due("reserve(" + year + ")", x.reserve(year), (year + 2L) * MOST);
        }
        Check.due("shortIn()", x.shortIn(), NONE);
        x.part(2, 0);
        x.care(0, 0, 1);
        Check.due("a cent less each year", x.reserve(11), 13L * MOST - 12);
    }

    private static void shortBelow0() {
        Check.sentence("Promise 20: whose reserve is below 0");
        for (int year = 0; year < 12; year++) {
            CostYears x = new CostYears(12);
            x.budget(year, 100);
            x.work(year, 50, 1, NONE);
            x.money(50, 0);
            x.choose();
            Check.due("0 is not", x.shortIn(), NONE);
            Check.due("reserve(11)", x.reserve(11), 0);
            x.money(49, 0);
            Check.due("-1 is", x.shortIn(), year);
            Check.due("reserve(" + year + ")", x.reserve(year), -1);
            x.money(51, 0);
            Check.due("1 is not", x.shortIn(), NONE);
        }
    }

    private static void shortInTheFirst() {
        Check.sentence("Promise 20: the first year");
        CostYears x = new CostYears(3);
        x.budget(0, 20);
        x.budget(2, 30);
        x.work(0, 20, 1, NONE);
        x.work(2, 30, 1, NONE);
        x.money(5, 15);
        x.choose();
        Check.due("never: 0, 15, 0", x.shortIn(), NONE);
        x.money(4, 15);
        Check.due("-1, 14, -1", x.shortIn(), 0);
        x.money(10, 12);
        Check.due("2, 14, -4", x.shortIn(), 2);
        x.part(2, 1);
        x.care(0, 1, 2);
        Check.due("0, 10, -10", x.shortIn(), 2);
        x.care(0, 1, 3);
        Check.due("-1, 8, -13", x.shortIn(), 0);
    }

    private static void shortInNone() {
        Check.sentence("Promise 20: NONE");
        CostYears one = new CostYears(1);
        Check.due("of an empty one", one.shortIn(), NONE);
        one.part(2, 0);
        one.care(0, 0, 1);
        Check.due("in the only year", one.shortIn(), 0);
        one.money(0, 1);
        Check.due("no longer", one.shortIn(), NONE);
        one.money(1, 0);
        Check.due("nor so", one.shortIn(), NONE);
    }

    private static void loanIsWithin() {
        Check.sentence("Promise 21: illegal argument: cents are not 1 .. 10^9, the rate or n");
        Check.bounds("cents", 1, MOST, c -> new CostYears(1).payment(c, 500, 10));
        Check.bounds("rate", 0, 2000, r -> new CostYears(1).payment(1000, r, 10));
        Check.bounds("n", 1, 30, n -> new CostYears(1).payment(1000, 500, n));
        Check.illegalArgument("all wrong", () -> new CostYears(1).payment(0, -1, 0));
        Check.sentence("Promise 22: of such a loan");
        Check.bounds("cents", 1, MOST, c -> new CostYears(1).rest(c, 500, 10, 5));
        Check.bounds("rate", 0, 2000, r -> new CostYears(1).rest(1000, r, 10, 5));
        Check.bounds("n", 1, 30, n -> new CostYears(1).rest(1000, 500, n, 1));
        Check.illegalArgument("all wrong", () -> new CostYears(1).rest(0, -1, 0, -1));
        Check.illegalArgument("n = 0, k = 0", () -> new CostYears(1).rest(1, 0, 0, 0));
        Check.illegalArgument("n = 31, k = 0", () -> new CostYears(1).rest(1, 0, 31, 0));
        Check.illegalArgument("n = 31, k = 31", () -> new CostYears(1).rest(1, 0, 31, 31));
        // The years of a loan are not the object's: an object of one year has loans of 30.
        Check.due("of an object of one year", new CostYears(1).payment(30, 0, 30), 1);
    }

    private static void kIsWithin() {
        Check.sentence("Promise 22: behind k years (0 .. n)");
        for (int n = 1; n <= 30; n++) {
            int years = n;
            Check.bounds("k of " + n, 0, n, k -> new CostYears(1).rest(123456, 321, years, k));
            CostYears x = new CostYears(12);
            Check.due("behind 0 years all", x.rest(123456, 321, n, 0), 123456);
            Check.due("behind n years nothing", x.rest(123456, 321, n, n), 0);
            boolean more = x.rest(123456, 321, n, n - 1) > 0;
            Check.due("behind n - 1 years something", more, true);
        }
    }

    /** The rest once more, in numbers without bounds. */
    private static BigInteger restWith(int cents, int rate, long payment, int years) {
        BigInteger rest = BigInteger.valueOf(cents);
        BigInteger whole = BigInteger.valueOf(10000);
        for (int year = 0; year < years; year++) {
            BigInteger[] added = rest.multiply(BigInteger.valueOf(rate)).divideAndRemainder(whole);
            BigInteger up = added[1].signum() == 0 ? BigInteger.ZERO : BigInteger.ONE;
            rest = rest.add(added[0]).add(up).subtract(BigInteger.valueOf(payment));
            rest = rest.max(BigInteger.ZERO);
        }
        return rest;
    }

    private static void leastPayment(int cents, int rate, int n) {
        CostYears x = new CostYears(1);
        String loan = "(" + cents + ", " + rate + ", " + n;
        int payment = x.payment(cents, rate, n);
        Check.due("enough: payment" + loan + ")",
            restWith(cents, rate, payment, n).signum(), 0);
        Check.due("a cent less is not: payment" + loan + ")",
            restWith(cents, rate, payment - 1L, n).signum(), 1);
        for (int k = 0; k <= n; k++) {
            Check.due("rest" + loan + ", " + k + ")", x.rest(cents, rate, n, k),
                restWith(cents, rate, payment, k).longValueExact());
        }
    }

    private static void paymentIsTheLeast() {
        Check.sentence("Terms: PAYMENT: the least whole number of cents for which the rest is 0 or"
            + " less behind n years");
        int[] amounts = {1, 2, 3, 29, 30, 31, 9999, 10000, 10001, 33333333, MOST - 1, MOST};
        int[] rates = {0, 1, 2, 999, 1000, 1999, 2000};
        int[] years = {1, 2, 3, 15, 29, 30};
        for (int cents : amounts) {
            for (int rate : rates) {
                for (int n : years) {
                    leastPayment(cents, rate, n);
                }
            }
        }
    }

    private static void roundedUp() {
        Check.sentence("Terms: each year rest * RATE / 10000, rounded up, comes");
        CostYears x = new CostYears(1);
        int[][] centsRatePayment = {
            {1, 1, 2}, {1, 2000, 2}, {5, 2000, 6}, {6, 2000, 8}, {10000, 1, 10001},
            {10001, 1, 10003}, {9999, 1, 10000}, {20000, 1, 20002}, {100, 100, 101},
            {101, 100, 103}, {99, 100, 100}, {1000, 999, 1100}, {1000, 1000, 1100},
            {1000, 1001, 1101}};
        for (int[] row : centsRatePayment) {
            String loan = "payment(" + row[0] + ", " + row[1] + ", 1)";
            Check.due(loan, x.payment(row[0], row[1], 1), row[2]);
        }
        Check.due("1 cent at 1 for 2 years", x.payment(1, 1, 2), 2);
        Check.due("2 cents at 1 for 2 years", x.payment(2, 1, 2), 2);
        Check.due("2 + 1 - 2", x.rest(2, 1, 2, 1), 1);
        Check.due("1 + 1 - 2", x.rest(2, 1, 2, 2), 0);
    }

    private static void restBelow0CountsAs0() {
        Check.sentence("Terms: (a rest below 0 counts as 0)");
        CostYears x = new CostYears(1);
        Check.due("3 a year for 10 in 4 years", x.payment(10, 0, 4), 3);
        int[] rests = {10, 7, 4, 1, 0};
        for (int k = 0; k <= 4; k++) {
            Check.due("rest(10, 0, 4, " + k + ")", x.rest(10, 0, 4, k), rests[k]);
        }
        Check.due("1 a year for 5 in 30 years", x.payment(5, 0, 30), 1);
        for (int k = 0; k <= 30; k++) {
            Check.due("rest(5, 0, 30, " + k + ")", x.rest(5, 0, 30, k), Math.max(0, 5 - k));
        }
        Check.due("2 a year for 1 at 2000", x.payment(1, 2000, 30), 2);
        for (int k = 0; k <= 30; k++) {
            Check.due("rest(1, 2000, 30, " + k + ")", x.rest(1, 2000, 30, k), k == 0 ? 1 : 0);
        }
    }

    private static void paidIn1Year() {
        Check.sentence("Terms: for n years (1 .. 30), in 1 year");
        CostYears x = new CostYears(1);
        Check.due("the least loan", x.payment(1, 0, 1), 1);
        Check.due("the greatest loan", x.payment(MOST, 0, 1), MOST);
        Check.due("the greatest loan, the greatest rate", x.payment(MOST, 2000, 1), 1200000000);
        Check.due("one cent less", x.payment(MOST - 1, 2000, 1), 1199999999);
        Check.due("rest behind 0 years", x.rest(MOST, 2000, 1, 0), MOST);
        Check.due("rest behind 1 year", x.rest(MOST, 2000, 1, 1), 0);
    }

    private static void noRate() {
        Check.sentence("Terms: at a RATE (0 .. 2000 of 10000), at 0");
        for (int n = 1; n <= 30; n++) {
            CostYears x = new CostYears(1);
            Check.due("n * 7 in n years", x.payment(7 * n, 0, n), 7);
            Check.due("a cent more", x.payment(7 * n + 1, 0, n), 8);
            Check.due("a cent less", x.payment(7 * n - 1, 0, n), n == 1 ? 6 : 7);
            Check.due("one cent", x.payment(1, 0, n), 1);
            Check.due("n - 1 years", x.rest(7 * n, 0, n, n - 1), 7);
        }
    }

    private static void theGreatestLoans() {
        Check.sentence("Promise 21: the PAYMENT of a loan, at the most");
        for (int n = 1; n <= 30; n++) {
            leastPayment(MOST, 2000, n);
            leastPayment(MOST, 0, n);
            leastPayment(1, 2000, n);
            leastPayment(1, 0, n);
        }
    }

    private static void loansChangeNothing() {
        Check.sentence("Terms: a LOAN is none of the reserve");
        CostYears x = new CostYears(2);
        x.money(10, 10);
        Check.due("payment(20, 0, 2)", x.payment(20, 0, 2), 10);
        Check.due("rest(20, 0, 2, 1)", x.rest(20, 0, 2, 1), 10);
        Check.due("reserve(0)", x.reserve(0), 20);
        Check.due("reserve(1)", x.reserve(1), 30);
        Check.due("costs(0)", x.costs(0), 0);
    }
}
