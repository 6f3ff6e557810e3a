import java.util.ArrayList;
import java.util.List;

/**
 * Objects of three sizes, always told the same, and all that can be asked of one. Two that were
 * told the same answer the same, so a refused call on one of them that changed something shows.
 */
enum House {
    EMPTY(5, new int[] {}, 0),
    SOME(4, new int[] {2, 3, 4}, 4),
    FULL(12, new int[] {4, 3, 2, 4, 2, 3, 2, 2, 3, 4, 2, 2}, 10);

    static final int ROUNDS = 3;
    private static final int NONE = CostYears.NONE;
    private static final int MOST_CALLS = 512;
    private static final long ILLEGAL_ARGUMENT = Long.MIN_VALUE;
    private static final long ILLEGAL_STATE = Long.MIN_VALUE + 1;
    private static final long ANOTHER = Long.MIN_VALUE + 2;

    interface Ask {
        long ask();
    }

    final int years;
    final int[] states;
    final int works;

    House(int years, int[] states, int works) {
        this.years = years;
        this.states = states;
        this.works = works;
    }

    int parts() {
        return states.length;
    }

    CostYears build() {
        CostYears x = new CostYears(years);
        if (this == EMPTY) {
            return x;
        }
        for (int part = 0; part < parts(); part++) {
            tellPart(x, part);
        }
        for (int work = 0; work < works; work++) {
            int part = work % 2 == 0 ? NONE : work % parts();
            x.work((3 * work + 1) % years, 100 + work, 10 + work, part);
        }
        tellBetweenWorks(x);
        for (int year = 0; year < years; year++) {
            x.index(year, 900 + 50 * year);
            x.budget(year, 150);
        }
        x.money(3000, 200);
        x.choose();
        // What would be chosen now is not what is: a choice made by the way would show.
        x.budget(1, 0);
        x.budget(2, 400);
        return x;
    }

    private void tellPart(CostYears x, int part) {
        int count = states[part];
        x.part(count, part % count);
        x.moves(part, part % count, (part + 1) % count, 5 + part % 3);
        x.moves(part, (part + 1) % count, part % count, 2);
        if (count > 2) {
            x.moves(part, part % count, (part + 2) % count, 9);
        }
        for (int state = 0; state < count; state++) {
            x.care(part, state, 1 + 20 * state + part);
        }
    }

    private void tellBetweenWorks(CostYears x) {
        x.join(0, 1, 11);
        x.join(0, works - 1, 12);
        x.clash(1, 2, true);
        x.needs(2, 0);
        x.needs(3, 1);
    }

    /** All answers of one round, on an object that is asked nothing else behind it. */
    List<Long> answers(CostYears x, int round) {
        List<Long> answers = new ArrayList<>();
        if (round == 0) {
            askWhatIsTold(x, answers);
        } else {
            if (round == 1) {
                add(answers, () -> x.choose());
            }
            askWhatFollows(x, answers);
        }
        // Building the greatest one takes 140 calls, the refused calls ahead of this a few.
        if (answers.size() > MOST_CALLS - 160) {
            throw new IllegalStateException("too many calls: " + answers.size());
        }
        return answers;
    }

    private static void add(List<Long> answers, Ask ask) {
        long answer;
        try {
            answer = ask.ask();
        } catch (IllegalArgumentException e) {
            answer = ILLEGAL_ARGUMENT;
        } catch (IllegalStateException e) {
            answer = ILLEGAL_STATE;
        } catch (RuntimeException e) {
            answer = ANOTHER;
        }
        answers.add(answer);
    }

    /** Tells all anew, for each call answers what was told before. */
    private void askWhatIsTold(CostYears x, List<Long> answers) {
        for (int at = 0; at < years; at++) {
            int year = at;
            add(answers, () -> x.index(year, 1000));
            add(answers, () -> x.budget(year, 0));
        }
        for (int part = 0; part < parts(); part++) {
            askOfPart(x, part, answers);
        }
        for (int a = 0; a < works; a++) {
            int work = a;
            add(answers, () -> x.needs(work, NONE));
            for (int b = 0; b < a; b++) {
                int other = b;
                add(answers, () -> x.join(work, other, 0));
                add(answers, () -> x.clash(work, other, false) ? 1 : 0);
            }
        }
        add(answers, () -> x.part(2, 0));
        add(answers, () -> x.work(0, 1, 1, NONE));
    }

    private void askOfPart(CostYears x, int part, List<Long> answers) {
        for (int a = 0; a < states[part]; a++) {
            int from = a;
            add(answers, () -> x.care(part, from, 0));
            for (int b = 0; b < states[part]; b++) {
                int to = b;
                if (from != to) {
                    add(answers, () -> x.moves(part, from, to, 0));
                }
            }
        }
        add(answers, () -> x.share(part, states[part], 0));
    }

    private void askWhatFollows(CostYears x, List<Long> answers) {
        for (int part = 0; part < parts(); part++) {
            askOfWear(x, part, answers);
        }
        add(answers, () -> x.most(parts(), 0));
        for (int at = 0; at < years; at++) {
            int year = at;
            add(answers, () -> x.costs(year));
            add(answers, () -> x.reserve(year));
        }
        add(answers, () -> x.shortIn());
        for (int a = 0; a < works; a++) {
            int work = a;
            add(answers, () -> x.chosen(work) ? 1 : 0);
            for (int b = 0; b <= a; b++) {
                int set = 1 << a | 1 << b;
                add(answers, () -> x.lacks(set));
            }
        }
        add(answers, () -> x.lacks(-1));
        add(answers, () -> x.chosen(works) ? 1 : 0);
    }

    private void askOfWear(CostYears x, int part, List<Long> answers) {
        int last = years - 1;
        for (int at = 0; at < states[part]; at++) {
            int state = at;
            add(answers, () -> x.share(part, state, 0));
            add(answers, () -> x.share(part, state, 1));
            add(answers, () -> x.share(part, state, last));
        }
        add(answers, () -> x.cares(part, 0));
        add(answers, () -> x.cares(part, last));
        add(answers, () -> x.most(part, 0));
        add(answers, () -> x.most(part, 2));
        add(answers, () -> x.most(part, last));
    }
}
