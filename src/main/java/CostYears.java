import java.util.Arrays;

/**
 * A house's costs over years: parts that wear from state to state with exact shares, works that
 * are chosen for the most worth within each year's budget, the reserve, a loan.
 */
public final class CostYears {
    /** There is none. */
    public static final int NONE = -1;

    private static final int LEAST_INDEX = 500;
    private static final int MOST_INDEX = 2000;
    private static final int MOST_MONEY = 1000000000;
    private static final int MOST_CARE = 1000;
    private static final int MOST_OF_A_WORK = 1000000;

    private final Years years;
    private final Parts parts;
    private final Works works;
    private final long[] reserves;
    private int beginning;
    private int deposit;

    public CostYears(int years) {
        this.years = new Years(Math.max(1, Math.min(years, Years.MOST)));
        this.parts = new Parts();
        this.works = new Works(this.years);
        this.reserves = new long[Years.MOST];
    }

    /** Tells a year's index; answers what it was. */
    public int index(int year, int perMille) throws IllegalArgumentException {
        refuseUnless(years.has(year) && isWithin(perMille, LEAST_INDEX, MOST_INDEX));
        int was = years.indexes[year];
        years.indexes[year] = perMille;
        return was;
    }

    /** Tells a year's budget; answers what it was. */
    public int budget(int year, int cents) throws IllegalArgumentException {
        refuseUnless(years.has(year) && isWithin(cents, 0, MOST_MONEY));
        int was = years.budgets[year];
        years.budgets[year] = cents;
        return was;
    }

    // ---- parts

    /** Adds a part; answers its number. */
    public int part(int states, int start) throws IllegalArgumentException, IllegalStateException {
        refuseUnless(isWithin(states, Parts.LEAST_STATES, Parts.MOST_STATES));
        refuseUnless(isWithin(start, 0, states - 1));
        refuseIfFull(parts.count >= Parts.MOST);
        return parts.add(states, start);
    }

    /** Tells how many sixteenths go from a state to another one; answers how many did. */
    public int moves(int part, int from, int to, int sixteenths) throws IllegalArgumentException {
        refuseUnless(parts.hasState(part, from) && parts.hasState(part, to) && from != to);
        refuseUnless(isWithin(sixteenths, 0, Parts.SIXTEENTHS));
        int was = parts.going(part, from, to);
        int stays = parts.going(part, from, from) + was - sixteenths;
        refuseUnless(stays >= 0);
        parts.setGoing(part, from, to, sixteenths);
        parts.setGoing(part, from, from, stays);
        return was;
    }

    /** Tells what care takes in a state; answers what it was. */
    public int care(int part, int state, int cents) throws IllegalArgumentException {
        refuseUnless(parts.hasState(part, state) && isWithin(cents, 0, MOST_CARE));
        int was = parts.takes[part][state];
        parts.takes[part][state] = cents;
        return was;
    }

    /** A part's share of a state in a year, over 16 to the power of the years worn. */
    public long share(int part, int state, int year) throws IllegalArgumentException {
        refuseUnless(parts.hasState(part, state) && years.has(year));
        parts.goTo(part, year);
        return parts.shares[state];
    }

    /** What a part's care costs in a year. */
    public int cares(int part, int year) throws IllegalArgumentException {
        refuseUnless(parts.has(part) && years.has(year));
        parts.goTo(part, year);
        return years.costIn(year, parts.careTaken(part));
    }

    /** The state of which a part's share is the greatest in a year. */
    public int most(int part, int year) throws IllegalArgumentException {
        refuseUnless(parts.has(part) && years.has(year));
        parts.goTo(part, year);
        return parts.greatestState(part);
    }

    // ---- works

    /** Adds a work, which renews a part or none; answers its number. */
    public int work(int year, int cents, int worth, int part)
            throws IllegalArgumentException, IllegalStateException {
        refuseUnless(years.has(year) && (part == NONE || parts.has(part)));
        refuseUnless(isWithin(cents, 1, MOST_OF_A_WORK) && isWithin(worth, 0, MOST_OF_A_WORK));
        refuseIfFull(works.count >= Works.MOST);
        return works.add(year, cents, worth, part);
    }

    /** Joins two works, so that they save cents; answers what they saved. */
    public int join(int a, int b, int saves) throws IllegalArgumentException {
        refuseUnless(works.has(a) && works.has(b) && a != b);
        refuseUnless(isWithin(saves, 0, MOST_OF_A_WORK));
        int was = works.saves[a][b];
        works.saves[a][b] = saves;
        works.saves[b][a] = saves;
        return was;
    }

    /** Tells whether two works clash; answers whether they did. */
    public boolean clash(int a, int b, boolean on) throws IllegalArgumentException {
        refuseUnless(works.has(a) && works.has(b) && a != b);
        boolean was = holds(works.clashing[a], b);
        works.clashing[a] = withBit(works.clashing[a], b, on);
        works.clashing[b] = withBit(works.clashing[b], a, on);
        return was;
    }

    /** Tells which other work a work needs, or none; answers which it needed. */
    public int needs(int work, int other) throws IllegalArgumentException {
        refuseUnless(works.has(work) && (other == NONE || works.has(other)) && work != other);
        int was = works.needed[work];
        works.needed[work] = other;
        return was;
    }

    /** Makes the choice; answers its worth in all. */
    public int choose() {
        works.makeChoice();
        renewParts();
        return works.worthOf(works.made);
    }

    /** Whether a work is in the choice made last. */
    public boolean chosen(int work) throws IllegalArgumentException {
        refuseUnless(works.has(work));
        return holds(works.made, work);
    }

    /** What the works of the choice made last cost in a year, by what is told now. */
    public int costs(int year) throws IllegalArgumentException {
        refuseUnless(years.has(year));
        works.spend(works.made);
        return works.spent[year];
    }

    /** What budgets lack in all for a set of works; NONE if it could not be chosen anyway. */
    public int lacks(int set) {
        int asked = set & works.all();
        if (!works.agree(asked)) {
            return NONE;
        }
        works.spend(asked);
        return works.spentOverBudgets();
    }

    // ---- money

    /** Tells what is there at the beginning, and each year's deposit. */
    public void money(int beginning, int deposit) throws IllegalArgumentException {
        refuseUnless(isWithin(beginning, 0, MOST_MONEY) && isWithin(deposit, 0, MOST_MONEY));
        this.beginning = beginning;
        this.deposit = deposit;
    }

    /** The reserve of a year. */
    public long reserve(int year) throws IllegalArgumentException {
        refuseUnless(years.has(year));
        reckonReserves();
        return reserves[year];
    }

    /** The first year whose reserve is below 0; NONE. */
    public int shortIn() {
        reckonReserves();
        for (int year = 0; year < years.count; year++) {
            if (reserves[year] < 0) {
                return year;
            }
        }
        return NONE;
    }

    /** The payment of a loan. */
    public int payment(int cents, int rate, int n) throws IllegalArgumentException {
        refuseUnless(Loan.isOne(cents, rate, n));
        return Loan.leastPayment(cents, rate, n);
    }

    /** The rest of a loan behind k years. */
    public int rest(int cents, int rate, int n, int k) throws IllegalArgumentException {
        refuseUnless(Loan.isOne(cents, rate, n) && isWithin(k, 0, n));
        return (int) Loan.restBehind(k, cents, rate, Loan.leastPayment(cents, rate, n));
    }

    // ---- inside

    private static void refuseUnless(boolean legal) throws IllegalArgumentException {
        if (!legal) {
            throw new IllegalArgumentException("out of bounds, or there is no such thing");
        }
    }

    private static void refuseIfFull(boolean full) throws IllegalStateException {
        if (full) {
            throw new IllegalStateException("there is no room for one more");
        }
    }

    private static boolean isWithin(int number, int least, int greatest) {
        return number >= least && number <= greatest;
    }

    private static boolean holds(int set, int bit) {
        return (set >> bit & 1) != 0;
    }

    private static int withBit(int set, int bit, boolean on) {
        return on ? set | 1 << bit : set & ~(1 << bit);
    }

    private void renewParts() {
        Arrays.fill(parts.renewals, 0);
        for (int work = 0; work < works.count; work++) {
            int part = works.partOf[work];
            if (part != NONE && holds(works.made, work)) {
                parts.renewals[part] = withBit(parts.renewals[part], works.yearOf[work], true);
            }
        }
    }

    private void reckonReserves() {
        works.spend(works.made);
        for (int year = 0; year < years.count; year++) {
            reserves[year] = deposit - works.spent[year];
        }
        for (int part = 0; part < parts.count; part++) {
            takeCareFromReserves(part);
        }
        long before = beginning;
        for (int year = 0; year < years.count; year++) {
            before += reserves[year];
            reserves[year] = before;
        }
    }

    private void takeCareFromReserves(int part) {
        for (int year = 0; year < years.count; year++) {
            parts.enter(part, year);
            reserves[year] -= years.costIn(year, parts.careTaken(part));
        }
    }

    /** The years with their indexes and budgets. */
    private static final class Years {
        static final int MOST = 12;
        static final int FIRST_INDEX = 1000;

        final int count;
        final int[] indexes = new int[MOST];
        final int[] budgets = new int[MOST];

        Years(int count) {
            this.count = count;
            Arrays.fill(indexes, FIRST_INDEX);
        }

        boolean has(int year) {
            return year >= 0 && year < count;
        }

        int costIn(int year, int cents) {
            return (int) ((long) cents * indexes[year] / 1000);
        }
    }

    /** The parts, and the shares of the one that is being followed through the years. */
    private static final class Parts {
        static final int MOST = 12;
        static final int LEAST_STATES = 2;
        static final int MOST_STATES = 4;
        static final int SIXTEENTHS = 16;
        static final int BITS_OF_A_YEAR = 4;

        int count;
        final int[] states = new int[MOST];
        final int[] starts = new int[MOST];
        // A state's move to itself is what stays, so that a row always adds up to 16.
        final int[][] sixteenths = new int[MOST][MOST_STATES * MOST_STATES];
        final int[][] takes = new int[MOST][MOST_STATES];
        // A bit for each year in which the choice made last renews the part.
        final int[] renewals = new int[MOST];

        final long[] shares = new long[MOST_STATES];
        final long[] sharesNext = new long[MOST_STATES];
        int yearsWorn;

        boolean has(int part) {
            return part >= 0 && part < count;
        }

        boolean hasState(int part, int state) {
            return has(part) && state >= 0 && state < states[part];
        }

        int add(int stateCount, int start) {
            int part = count;
            count++;
            states[part] = stateCount;
            starts[part] = start;
            for (int state = 0; state < stateCount; state++) {
                setGoing(part, state, state, SIXTEENTHS);
            }
            return part;
        }

        int going(int part, int from, int to) {
            return sixteenths[part][from * MOST_STATES + to];
        }

        void setGoing(int part, int from, int to, int amount) {
            sixteenths[part][from * MOST_STATES + to] = amount;
        }

        void goTo(int part, int year) {
            for (int passed = 0; passed <= year; passed++) {
                enter(part, passed);
            }
        }

        /** The shares must be the part's own of the year before, but for year 0. */
        void enter(int part, int year) {
            if (year == 0 || holds(renewals[part], year)) {
                begin(part);
            } else {
                wear(part);
            }
        }

        private void begin(int part) {
            Arrays.fill(shares, 0L);
            shares[starts[part]] = 1;
            yearsWorn = 0;
        }

        private void wear(int part) {
            for (int to = 0; to < states[part]; to++) {
                long sum = 0;
                for (int from = 0; from < states[part]; from++) {
                    sum += shares[from] * going(part, from, to);
                }
                sharesNext[to] = sum;
            }
            System.arraycopy(sharesNext, 0, shares, 0, states[part]);
            yearsWorn++;
        }

        int careTaken(int part) {
            long sum = 0;
            for (int state = 0; state < states[part]; state++) {
                sum += shares[state] * takes[part][state];
            }
            return (int) (sum >> yearsWorn * BITS_OF_A_YEAR);
        }

        int greatestState(int part) {
            int greatest = 0;
            for (int state = 1; state < states[part]; state++) {
                if (shares[state] >= shares[greatest]) {
                    greatest = state;
                }
            }
            return greatest;
        }
    }

    /** The works, the choice made last, and what a set of works was reckoned to cost. */
    private static final class Works {
        static final int MOST = 10;

        final Years years;
        int count;
        final int[] yearOf = new int[MOST];
        final int[] cents = new int[MOST];
        final int[] worth = new int[MOST];
        final int[] partOf = new int[MOST];
        final int[] needed = new int[MOST];
        final int[] clashing = new int[MOST];
        final int[][] saves = new int[MOST][MOST];
        int made;
        final int[] spent = new int[Years.MOST];

        Works(Years years) {
            this.years = years;
        }

        boolean has(int work) {
            return work >= 0 && work < count;
        }

        int all() {
            return (1 << count) - 1;
        }

        int add(int year, int itsCents, int itsWorth, int part) {
            int work = count;
            count++;
            yearOf[work] = year;
            cents[work] = itsCents;
            worth[work] = itsWorth;
            partOf[work] = part;
            needed[work] = NONE;
            return work;
        }

        int worthOf(int set) {
            int sum = 0;
            for (int work = 0; work < count; work++) {
                if (holds(set, work)) {
                    sum += worth[work];
                }
            }
            return sum;
        }

        /** Whether none of a set clash and all have what they need. */
        boolean agree(int set) {
            for (int work = 0; work < count; work++) {
                if (holds(set, work) && ((clashing[work] & set) != 0 || lacksNeeded(work, set))) {
                    return false;
                }
            }
            return true;
        }

        private boolean lacksNeeded(int work, int set) {
            int other = needed[work];
            return other != NONE && (!holds(set, other) || yearOf[work] < yearOf[other]);
        }

        /** Reckons what a set of works costs in each year. */
        void spend(int set) {
            Arrays.fill(spent, 0);
            for (int work = 0; work < count; work++) {
                if (holds(set, work)) {
                    int year = yearOf[work];
                    spent[year] += years.costIn(year, cents[work]) - savedWithEarlier(work, set);
                }
            }
            for (int year = 0; year < years.count; year++) {
                spent[year] = Math.max(spent[year], 0);
            }
        }

        /** Only works of lower numbers are asked, so that each joined pair counts once. */
        private int savedWithEarlier(int work, int set) {
            int sum = 0;
            for (int other = 0; other < work; other++) {
                if (holds(set, other) && yearOf[other] == yearOf[work]) {
                    sum += saves[work][other];
                }
            }
            return sum;
        }

        int spentOverBudgets() {
            int sum = 0;
            for (int year = 0; year < years.count; year++) {
                sum += Math.max(spent[year] - years.budgets[year], 0);
            }
            return sum;
        }

        private int spentInAll() {
            int sum = 0;
            for (int year = 0; year < years.count; year++) {
                sum += spent[year];
            }
            return sum;
        }

        /** Sets come in the order of their numbers, so of equally good ones the least stays. */
        void makeChoice() {
            int best = 0;
            int bestWorth = 0;
            int bestCost = 0;
            int last = all();
            for (int set = 1; set <= last; set++) {
                int itsWorth = worthOf(set);
                if (itsWorth < bestWorth || !agree(set)) {
                    continue;
                }
                spend(set);
                int itsCost = spentInAll();
                boolean better = itsWorth > bestWorth || itsCost < bestCost;
                if (better && spentOverBudgets() == 0) {
                    best = set;
                    bestWorth = itsWorth;
                    bestCost = itsCost;
                }
            }
            made = best;
        }
    }

    /** What is reckoned of a loan. */
    private static final class Loan {
        static final int MOST_RATE = 2000;
        static final int WHOLE_RATE = 10000;
        static final int MOST_YEARS = 30;
        static final int HIGHEST_BIT = 30;

        static boolean isOne(int cents, int rate, int n) {
            return isWithin(cents, 1, MOST_MONEY) && isWithin(rate, 0, MOST_RATE)
                    && isWithin(n, 1, MOST_YEARS);
        }

        static long restBehind(int years, int cents, int rate, long payment) {
            long rest = cents;
            for (int year = 0; year < years; year++) {
                long interest = (rest * rate + WHOLE_RATE - 1) / WHOLE_RATE;
                rest = Math.max(rest + interest - payment, 0L);
            }
            return rest;
        }

        /** Builds the greatest payment that is too little, from its highest bit to its lowest. */
        static int leastPayment(int cents, int rate, int n) {
            long tooLittle = 0;
            for (int bit = HIGHEST_BIT; bit >= 0; bit--) {
                long tried = tooLittle + (1L << bit);
                if (restBehind(n, cents, rate, tried) > 0) {
                    tooLittle = tried;
                }
            }
            return (int) (tooLittle + 1);
        }
    }
}
