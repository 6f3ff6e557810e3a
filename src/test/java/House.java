import java.util.ArrayList;
import java.util.List;

/**
 * Objects of three sizes, always told the same, and all that can be asked of one. Two that were
 * told the same answer the same, so a refused call on one of them that changed something shows.
 */
enum House {
    EMPTY(5, new int[] {}, 0),
    SOME(4, new int[] {2, 3, 4}, 4),
    FULL(12, new int[] {4, 3, 2, 4, 2, 3, 2, 2, 3, 4, 2, 2}, 10);

    // What is asked in a round: what was told; what follows from it, chosen anew or not.
    static final int TOLD = 0;
    static final int CHOSEN_ANEW = 1;
    static final int AS_CHOSEN = 2;
    static final int ROUNDS = 3;
    private static final int NONE = CostYears.NONE;
    private static final int MOST_CALLS = 512;
    private static final long ILLEGAL_ARGUMENT = Long.MIN_VALUE;
    private static final long ILLEGAL_STATE = Long.MIN_VALUE + 1;
    private static final long ANOTHER = Long.MIN_VALUE + 2;

    interface Ask {
        long of(CostYears x);
    }

    final int years;
    final int[] states;
    final int works;

    House(int years, int[] states, int works) {
        this.years = years;
        this.states = states;
        this.works = works;
    }

    int parts() {
        return states.length;
    }

    CostYears build() {
        CostYears x = new CostYears(years);
        if (this == EMPTY) {
            return x;
        }
        for (int part = 0; part < parts(); part++) {
            tellPart(x, part);
        }
        for (int work = 0; work < works; work++) {
            int part = work % 2 == 0 ? NONE : work % parts();
            x.work((3 * work + 1) % years, 100 + work, 10 + work, part);
        }
        tellBetweenWorks(x);
        for (int year = 0; year < years; year++) {
            x.index(year, 900 + 50 * year);
            x.budget(year, 150);
        }
        x.money(3000, 200);
        x.choose();
        // What would be chosen now is not what is: a choice made by the way would show.
        x.budget(1, 0);
        x.budget(2, 400);
        return x;
    }

    private void tellPart(CostYears x, int part) {
        int count = states[part];
        x.part(count, part % count);
        x.moves(part, part % count, (part + 1) % count, 5 + part % 3);
        x.moves(part, (part + 1) % count, part % count, 2);
        if (count > 2) {
            x.moves(part, part % count, (part + 2) % count, 9);
        }
        for (int state = 0; state < count; state++) {
            x.care(part, state, 1 + 20 * state + part);
        }
    }

    private void tellBetweenWorks(CostYears x) {
        x.join(0, 1, 11);
        x.join(0, works - 1, 12);
        x.clash(1, 2, true);
        x.needs(2, 0);
        x.needs(3, 1);
    }

    /** All answers of one round, on an object that is asked nothing else behind it. */
    List<Long> answers(CostYears x, int round) {
        List<Long> answers = new ArrayList<>();
        for (Ask ask : asks(round)) {
            answers.add(answer(x, ask));
        }
        return answers;
    }

    static long answer(CostYears x, Ask ask) {
        try {
            return ask.of(x);
        } catch (IllegalArgumentException e) {
            return ILLEGAL_ARGUMENT;
        } catch (IllegalStateException e) {
            return ILLEGAL_STATE;
        } catch (RuntimeException e) {
            return ANOTHER;
        }
    }

    List<Ask> asks(int round) {
        List<Ask> asks = new ArrayList<>();
        if (round == TOLD) {
            askWhatIsTold(asks);
        } else {
            if (round == CHOSEN_ANEW) {
                asks.add(x -> x.choose());
            }
            askWhatFollows(asks);
        }
        // Building the greatest one takes 140 calls, what else is called ahead of this a few.
        if (asks.size() > MOST_CALLS - 160) {
            throw new IllegalStateException("too many calls: " + asks.size());
        }
        return asks;
    }

    /** Tells all anew, for each call answers what was told before. */
    private void askWhatIsTold(List<Ask> asks) {
        for (int at = 0; at < years; at++) {
            int year = at;
            asks.add(x -> x.index(year, 1000));
            asks.add(x -> x.budget(year, 0));
        }
        for (int part = 0; part < parts(); part++) {
            askOfPart(part, asks);
        }
        for (int a = 0; a < works; a++) {
            int work = a;
            asks.add(x -> x.needs(work, NONE));
            for (int b = 0; b < a; b++) {
                int other = b;
                asks.add(x -> x.join(work, other, 0));
                asks.add(x -> x.clash(work, other, false) ? 1 : 0);
            }
        }
        asks.add(x -> x.part(2, 0));
        asks.add(x -> x.work(0, 1, 1, NONE));
    }

    private void askOfPart(int part, List<Ask> asks) {
        for (int a = 0; a < states[part]; a++) {
            int from = a;
            asks.add(x -> x.care(part, from, 0));
            for (int b = 0; b < states[part]; b++) {
                int to = b;
                if (from != to) {
                    asks.add(x -> x.moves(part, from, to, 0));
                }
            }
        }
        asks.add(x -> x.share(part, states[part], 0));
    }

    private void askWhatFollows(List<Ask> asks) {
        for (int part = 0; part < parts(); part++) {
            askOfWear(part, asks);
        }
        asks.add(x -> x.most(parts(), 0));
        for (int at = 0; at < years; at++) {
            int year = at;
            asks.add(x -> x.costs(year));
            asks.add(x -> x.reserve(year));
        }
        asks.add(x -> x.shortIn());
        for (int a = 0; a < works; a++) {
            int work = a;
            asks.add(x -> x.chosen(work) ? 1 : 0);
            for (int b = 0; b <= a; b++) {
                int set = 1 << a | 1 << b;
                asks.add(x -> x.lacks(set));
            }
        }
        asks.add(x -> x.lacks(-1));
        asks.add(x -> x.chosen(works) ? 1 : 0);
        asks.add(x -> x.payment(123456, 321, 7));
        asks.add(x -> x.rest(123456, 321, 7, 3));
    }

    private void askOfWear(int part, List<Ask> asks) {
        int last = years - 1;
        for (int at = 0; at < states[part]; at++) {
            int state = at;
            asks.add(x -> x.share(part, state, 0));
            asks.add(x -> x.share(part, state, 1));
            asks.add(x -> x.share(part, state, last));
        }
        asks.add(x -> x.cares(part, 0));
        asks.add(x -> x.cares(part, last));
        asks.add(x -> x.most(part, 0));
        asks.add(x -> x.most(part, 2));
        asks.add(x -> x.most(part, last));
    }
}
