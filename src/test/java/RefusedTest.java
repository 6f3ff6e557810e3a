import java.util.List;

/**
 * Illegal calls on objects with nothing, with something, and with as many as there may be: each
 * throws what the document names first, and what later calls answer shows that it changed nothing.
 */
public final class RefusedTest {
    private static final int NONE = CostYears.NONE;
    private static final int MIN = Integer.MIN_VALUE;
    private static final int MAX = Integer.MAX_VALUE;

    interface Wrong {
        void call(CostYears x);
    }

    private final House house;
    private final int years;
    private final int parts;
    private final int works;

    private RefusedTest(House house) {
        this.house = house;
        years = house.years;
        parts = house.parts();
        works = house.works;
    }

    public static void main(String[] args) {
        for (House house : House.values()) {
            Check.sentence("Terms: a call that throws changes nothing (" + house + ")");
            RefusedTest test = new RefusedTest(house);
            test.years();
            test.parts();
            test.works();
            test.money();
            test.illegalState();
            test.manyInARow();
        }
        housesTellThemselvesApart();
        Check.end();
    }

    private void illegalArgument(String name, Wrong wrong) {
        for (int round = 0; round < House.ROUNDS; round++) {
            CostYears x = house.build();
            Check.illegalArgument(name, () -> wrong.call(x));
            asBefore(name, x, round);
        }
    }

    private void illegalState(String name, Wrong wrong) {
        for (int round = 0; round < House.ROUNDS; round++) {
            CostYears x = house.build();
            Check.illegalState(name, () -> wrong.call(x));
            asBefore(name, x, round);
        }
    }

    private void asBefore(String name, CostYears x, int round) {
        List<Long> got = house.answers(x, round);
        List<Long> want = house.answers(house.build(), round);
        Check.due(name + " changed nothing (round " + round + ")", got.equals(want), true);
    }

    private void years() {
        int[] noYears = {MIN, -1, years, MAX};
        for (int year : noYears) {
            illegalArgument("index in year " + year, x -> x.index(year, 700));
            illegalArgument("budget in year " + year, x -> x.budget(year, 77));
            illegalArgument("costs in year " + year, x -> x.costs(year));
            illegalArgument("reserve in year " + year, x -> x.reserve(year));
        }
        int[] noIndexes = {MIN, 0, 499, 2001, MAX};
        for (int index : noIndexes) {
            illegalArgument("index " + index, x -> x.index(years - 1, index));
            illegalArgument("index " + index + " in no year", x -> x.index(years, index));
        }
        int[] noBudgets = {MIN, -1, 1000000001, MAX};
        for (int budget : noBudgets) {
            illegalArgument("budget " + budget, x -> x.budget(0, budget));
            illegalArgument("budget " + budget + " in no year", x -> x.budget(-1, budget));
        }
    }

    private void parts() {
        int[][] noParts = {{1, 0}, {5, 0}, {MIN, 0}, {MAX, 0}, {2, 2}, {3, 3}, {4, 4}, {2, -1},
            {4, MAX}, {3, MIN}, {1, 1}, {5, 5}, {0, -1}};
        for (int[] part : noParts) {
            String told = "part(" + part[0] + ", " + part[1] + ")";
            illegalArgument(told, x -> x.part(part[0], part[1]));
        }
        int[] missing = {MIN, -1, parts, 12, MAX};
        for (int part : missing) {
            illegalArgument("moves of part " + part, x -> x.moves(part, 0, 1, 1));
            illegalArgument("care of part " + part, x -> x.care(part, 0, 1));
            illegalArgument("share of part " + part, x -> x.share(part, 0, 0));
            illegalArgument("cares of part " + part, x -> x.cares(part, 0));
            illegalArgument("most of part " + part, x -> x.most(part, 0));
        }
        for (int part = 0; part < parts; part += parts - 1) {
            statesOf(part);
        }
    }

    private void statesOf(int part) {
        int[] noStates = {MIN, -1, house.states[part], MAX};
        for (int state : noStates) {
            String of = " state " + state + " of part " + part;
            illegalArgument("moves from" + of, x -> x.moves(part, state, 0, 1));
            illegalArgument("moves to" + of, x -> x.moves(part, 0, state, 1));
            illegalArgument("care of" + of, x -> x.care(part, state, 5));
            illegalArgument("share of" + of, x -> x.share(part, state, 0));
        }
        int[] noYears = {MIN, -1, years, MAX};
        for (int year : noYears) {
            illegalArgument("share in year " + year, x -> x.share(part, 0, year));
            illegalArgument("cares in year " + year, x -> x.cares(part, year));
            illegalArgument("most in year " + year, x -> x.most(part, year));
        }
        int[] noSixteenths = {MIN, -16, -1, 17, 32, MAX};
        for (int sixteenths : noSixteenths) {
            illegalArgument(sixteenths + " sixteenths", x -> x.moves(part, 0, 1, sixteenths));
            illegalArgument(sixteenths + " sixteenths", x -> x.moves(part, 1, 0, sixteenths));
        }
        int[] noCares = {MIN, -1, 1001, MAX};
        for (int cents : noCares) {
            illegalArgument("care of " + cents, x -> x.care(part, 1, cents));
        }
        illegalArgument("to itself", x -> x.moves(part, 1, 1, 1));
        illegalArgument("to itself, none", x -> x.moves(part, 0, 0, 0));
        if (house.states[part] > 2) {
            int start = part % house.states[part];
            int other = (start + 2) % house.states[part];
            illegalArgument("more than 16 from the start", x -> x.moves(part, start, other, 12));
        }
    }

    private void works() {
        int[][] noWorks = {{-1, 1, 1, NONE}, {years, 1, 1, NONE}, {MIN, 1, 1, NONE},
            {MAX, 1, 1, NONE}, {0, 0, 1, NONE}, {0, -1, 1, NONE}, {0, 1000001, 1, NONE},
            {0, MIN, 1, NONE}, {0, MAX, 1, NONE}, {0, 1, -1, NONE}, {0, 1, 1000001, NONE},
            {0, 1, MIN, NONE}, {0, 1, MAX, NONE}, {0, 1, 1, -2}, {0, 1, 1, parts},
            {0, 1, 1, MIN}, {0, 1, 1, MAX}, {-1, 0, -1, -2}};
        for (int[] w : noWorks) {
            illegalArgument("work(" + w[0] + ", " + w[1] + ", " + w[2] + ", " + w[3] + ")",
                x -> x.work(w[0], w[1], w[2], w[3]));
        }
        int[] missing = {MIN, -1, works, 10, 32, MAX};
        for (int work : missing) {
            String of = " of work " + work;
            illegalArgument("chosen" + of, x -> x.chosen(work));
            illegalArgument("needs" + of, x -> x.needs(work, NONE));
            illegalArgument("needs" + of, x -> x.needs(work, 0));
            illegalArgument("join" + of, x -> x.join(work, 0, 5));
            illegalArgument("join" + of, x -> x.join(0, work, 5));
            illegalArgument("clash" + of, x -> x.clash(work, 0, true));
            illegalArgument("clash" + of, x -> x.clash(0, work, true));
            if (work != NONE) {
                illegalArgument("the need" + of, x -> x.needs(0, work));
            }
        }
        int[] noSavings = {MIN, -1, 1000001, MAX};
        for (int cents : noSavings) {
            illegalArgument("join by " + cents, x -> x.join(0, 1, cents));
        }
        for (int work = 0; work < Math.max(works, 1); work++) {
            int at = work;
            illegalArgument("joined with itself", x -> x.join(at, at, 5));
            illegalArgument("clashing with itself", x -> x.clash(at, at, true));
            illegalArgument("clashing not with itself", x -> x.clash(at, at, false));
            illegalArgument("needing itself", x -> x.needs(at, at));
        }
    }

    private void money() {
        int[] noMoney = {MIN, -1, 1000000001, MAX};
        for (int cents : noMoney) {
            illegalArgument("a beginning of " + cents, x -> x.money(cents, 1));
            illegalArgument("a deposit of " + cents, x -> x.money(1, cents));
        }
        int[][] noLoans = {{0, 1, 1}, {MIN, 1, 1}, {1000000001, 1, 1}, {MAX, 1, 1}, {1, -1, 1},
            {1, 2001, 1}, {1, MIN, 1}, {1, MAX, 1}, {1, 1, 0}, {1, 1, 31}, {1, 1, MIN},
            {1, 1, MAX}};
        for (int[] loan : noLoans) {
            String of = "(" + loan[0] + ", " + loan[1] + ", " + loan[2] + ")";
            illegalArgument("payment" + of, x -> x.payment(loan[0], loan[1], loan[2]));
            illegalArgument("rest" + of, x -> x.rest(loan[0], loan[1], loan[2], 0));
        }
        int[] noYears = {MIN, -1, 8, MAX};
        for (int k : noYears) {
            illegalArgument("rest behind " + k + " of 7 years", x -> x.rest(5, 5, 7, k));
        }
    }

    private void illegalState() {
        if (parts == 12) {
            illegalState("a thirteenth part of 2 states", x -> x.part(2, 1));
            illegalState("a thirteenth part of 4 states", x -> x.part(4, 3));
        }
        if (works == 10) {
            illegalState("an eleventh work", x -> x.work(0, 1, 1, NONE));
            illegalState("an eleventh work", x -> x.work(years - 1, 1000000, 1000000, parts - 1));
        }
    }

    private void manyInARow() {
        for (int round = 0; round < House.ROUNDS; round++) {
            CostYears x = house.build();
            Check.illegalArgument("index", () -> x.index(0, 2001));
            Check.illegalArgument("budget", () -> x.budget(years, 1));
            Check.illegalArgument("part", () -> x.part(2, 2));
            Check.illegalArgument("moves", () -> x.moves(0, 0, 1, 17));
            Check.illegalArgument("care", () -> x.care(0, 0, -1));
            Check.illegalArgument("work", () -> x.work(0, 0, 1, NONE));
            Check.illegalArgument("join", () -> x.join(0, 1, -1));
            Check.illegalArgument("clash", () -> x.clash(0, works, true));
            Check.illegalArgument("needs", () -> x.needs(0, works));
            Check.illegalArgument("money", () -> x.money(0, -1));
            asBefore("ten in a row", x, round);
        }
    }

    /** What the answers are compared for would be no test if they did not tell a change. */
    private static void housesTellThemselvesApart() {
        Check.sentence("The answers show what a call changes");
        Wrong[] changes = {
            x -> x.index(3, 1999), x -> x.budget(3, 1), x -> x.part(2, 0),
            x -> x.moves(2, 1, 0, 1), x -> x.care(1, 2, 999), x -> x.work(0, 1, 1, NONE),
            x -> x.join(2, 3, 1), x -> x.clash(0, 3, true), x -> x.needs(1, 2),
            x -> x.money(3000, 201), x -> x.money(3001, 200), x -> x.choose()};
        for (int at = 0; at < changes.length; at++) {
            boolean shown = false;
            for (int round = 0; round < House.ROUNDS; round++) {
                CostYears x = House.SOME.build();
                changes[at].call(x);
                List<Long> untouched = House.SOME.answers(House.SOME.build(), round);
                shown = shown || !House.SOME.answers(x, round).equals(untouched);
            }
            Check.due("change " + at + " is shown", shown, true);
        }
    }
}
