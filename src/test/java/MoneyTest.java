/** Promises 18 to 22: money, reserve, shortIn, payment, rest. */
public final class MoneyTest {
    private static final int NONE = CostYears.NONE;

    public static void main(String[] args) {
        money();
        reserve();
        reserveIsExactPartByPart();
        shortIn();
        allTwelveYears();
        paymentAndRest();
        paymentIsTheLeast();
        paymentAndRestRefuse();
        Check.end();
    }

    private static void money() {
        CostYears x = new CostYears(12);
        x.money(1000000000, 1000000000);
        Check.due("the most", x.reserve(11), 13000000000L);
        Check.illegalArgument("money(-1, 0)", () -> x.money(-1, 0));
        Check.illegalArgument("money(0, -1)", () -> x.money(0, -1));
        Check.illegalArgument("money(10^9 + 1, 0)", () -> x.money(1000000001, 0));
        Check.illegalArgument("money(0, 10^9 + 1)", () -> x.money(0, 1000000001));
        Check.due("refused ones changed nothing", x.reserve(0), 2000000000);
        x.money(7, 0);
        Check.due("a beginning alone", x.reserve(0), 7);
        Check.due("a beginning alone", x.reserve(11), 7);
        x.money(0, 7);
        Check.due("a deposit alone", x.reserve(0), 7);
        Check.due("a deposit each year", x.reserve(11), 84);
    }

    private static void reserve() {
        CostYears x = new CostYears(4);
        x.money(100, 10);
        x.part(2, 0);
        x.moves(0, 0, 1, 8);
        x.care(0, 0, 4);
        x.care(0, 1, 20);
        long[] withCare = {106, 104, 98, 90};
        for (int year = 0; year < 4; year++) {
            Check.due("less care, year " + year, x.reserve(year), withCare[year]);
        }
        x.work(2, 30, 1, 0);
        x.budget(2, 60);
        Check.due("not chosen yet", x.reserve(3), 90);
        x.choose();
        long[] withWork = {106, 104, 80, 78};
        for (int year = 0; year < 4; year++) {
            Check.due("less the work, renewed, year " + year, x.reserve(year), withWork[year]);
        }
        x.index(2, 2000);
        long[] withIndex = {106, 104, 46, 44};
        for (int year = 0; year < 4; year++) {
            Check.due("by the index told now, year " + year, x.reserve(year), withIndex[year]);
        }
        Check.illegalArgument("reserve(4)", () -> x.reserve(4));
        Check.illegalArgument("reserve(-1)", () -> x.reserve(-1));
        Check.due("asking changes nothing", x.reserve(3), 44);
    }

    private static void reserveIsExactPartByPart() {
        CostYears x = new CostYears(2);
        x.money(10, 0);
        x.index(1, 1500);
        for (int part = 0; part < 3; part++) {
            x.part(2, 0);
            x.moves(part, 0, 1, 8);
            x.care(part, 1, 3);
        }
        Check.due("3 times 1.5 are 3 times 1", x.reserve(1), 7);
        for (int part = 3; part < 12; part++) {
            x.part(4, 3);
            x.care(part, 3, 1000);
        }
        Check.due("below 0", x.reserve(0), -8990);
        Check.due("below 0", x.reserve(1), -22493);
    }

    private static void shortIn() {
        CostYears x = new CostYears(3);
        x.part(2, 0);
        x.care(0, 0, 5);
        Check.due("in year 0", x.shortIn(), 0);
        x.money(5, 0);
        Check.due("0 is not below 0", x.shortIn(), 1);
        x.money(9, 3);
        Check.due("never", x.shortIn(), NONE);
        x.money(0, 5);
        Check.due("0 in each year", x.shortIn(), NONE);
        x.work(2, 1, 1, NONE);
        x.budget(2, 1);
        Check.due("not chosen", x.shortIn(), NONE);
        x.choose();
        Check.due("in the last year", x.shortIn(), 2);
        x.money(1, 5);
        Check.due("no longer", x.shortIn(), NONE);
        x.money(0, 4);
        x.index(0, 500);
        x.index(1, 2000);
        Check.due("the first year, though later ones are short too", x.shortIn(), 1);
        x.index(1, 500);
        x.index(2, 500);
        Check.due("never", x.shortIn(), NONE);
    }

    private static void allTwelveYears() {
        CostYears x = new CostYears(12);
        for (int part = 0; part < 12; part++) {
            x.part(4, 0);
            x.care(part, 0, 1);
        }
        x.money(12, 11);
        Check.due("just enough for all years", x.reserve(11), 0);
        Check.due("never", x.shortIn(), NONE);
        x.money(11, 11);
        Check.due("in the last of twelve years", x.shortIn(), 11);
    }

    private static void paymentAndRest() {
        CostYears x = new CostYears(1);
        Check.due("a tenth, rounded up", x.payment(1001, 1000, 1), 1102);
        Check.due("no rate", x.payment(10, 0, 5), 2);
        Check.due("no rate, rounded up", x.payment(11, 0, 5), 3);
        Check.due("paid early", x.rest(11, 0, 5, 4), 0);
        Check.due("a year ahead of that", x.rest(11, 0, 5, 3), 2);
        Check.due("the most in a year", x.payment(1000000000, 2000, 1), 1200000000);
        Check.due("one cent for 30 years", x.payment(1, 2000, 30), 2);
        Check.due("one cent for 30 years", x.rest(1, 2000, 30, 1), 0);
        Check.due("behind 0 years", x.rest(1000000000, 2000, 30, 0), 1000000000);
        Check.due("behind all years", x.rest(1000000000, 2000, 30, 30), 0);
        Check.due("1000 + 100 - 403", x.rest(1000, 1000, 3, 1), 697);
        Check.due("697 + 70 - 403", x.rest(1000, 1000, 3, 2), 364);
        Check.due("364 + 37 - 403", x.rest(1000, 1000, 3, 3), 0);
        Check.due("payment(1000, 1000, 3)", x.payment(1000, 1000, 3), 403);
    }

    private static long restByYears(long cents, int rate, long payment, int years) {
        long rest = cents;
        for (int year = 0; year < years && rest > 0; year++) {
            long interest = rest * rate / 10000 + (rest * rate % 10000 == 0 ? 0 : 1);
            rest += interest - payment;
        }
        return Math.max(rest, 0);
    }

    private static void paymentIsTheLeast() {
        int[] amounts = {1, 2, 7, 99, 10000, 123457, 999999999, 1000000000};
        int[] rates = {0, 1, 3, 250, 1999, 2000};
        for (int cents : amounts) {
            for (int rate : rates) {
                for (int n = 1; n <= 30; n++) {
                    paymentIsTheLeast(cents, rate, n);
                }
            }
        }
    }

    private static void paymentIsTheLeast(int cents, int rate, int n) {
        CostYears x = new CostYears(1);
        String loan = cents + ", " + rate + ", " + n;
        int payment = x.payment(cents, rate, n);
        Check.due("enough: " + loan, restByYears(cents, rate, payment, n), 0);
        Check.due("a cent less is too little: " + loan,
            restByYears(cents, rate, payment - 1, n) > 0, true);
        for (int k = 0; k <= n; k++) {
            Check.due("rest: " + loan + ", " + k, x.rest(cents, rate, n, k),
                restByYears(cents, rate, payment, k));
        }
    }

    private static void paymentAndRestRefuse() {
        CostYears x = new CostYears(1);
        int[][] wrong = {
            {0, 0, 1}, {-1, 0, 1}, {1000000001, 0, 1}, {Integer.MIN_VALUE, 0, 1},
            {1, -1, 1}, {1, 2001, 1}, {1, 0, 0}, {1, 0, -1}, {1, 0, 31},
            {1, 0, Integer.MAX_VALUE}, {1, Integer.MIN_VALUE, 1}};
        for (int[] loan : wrong) {
            String told = loan[0] + ", " + loan[1] + ", " + loan[2];
            Check.illegalArgument("payment " + told, () -> x.payment(loan[0], loan[1], loan[2]));
            Check.illegalArgument("rest " + told, () -> x.rest(loan[0], loan[1], loan[2], 0));
        }
        Check.illegalArgument("rest(5, 0, 3, 4)", () -> x.rest(5, 0, 3, 4));
        Check.illegalArgument("rest(5, 0, 3, -1)", () -> x.rest(5, 0, 3, -1));
        Check.illegalArgument("rest(5, 0, 30, 31)", () -> x.rest(5, 0, 30, 31));
    }
}
