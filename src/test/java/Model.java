import java.math.BigInteger;
import java.util.ArrayList;
import java.util.HashSet;
import java.util.List;
import java.util.Set;

/**
 * The document once more, as plainly as can be: nothing is kept but what was told, and every
 * answer is worked out anew. A boolean counts 1 or 0.
 */
final class Model {
    private static final class Part {
        int states;
        int start;
        int[][] moves = new int[4][4];
        int[] care = new int[4];
    }

    private static final class Work {
        int year;
        int cents;
        int worth;
        int part;
        int needs = -1;
        Set<Integer> clashes = new HashSet<>();
        int[] saves = new int[10];
    }

    private final int years;
    private final int[] index;
    private final int[] budget;
    private final List<Part> parts = new ArrayList<>();
    private final List<Work> works = new ArrayList<>();
    private Set<Integer> choice = new HashSet<>();
    private long beginning;
    private long deposit;

    Model(int told) {
        years = told < 1 ? 1 : told > 12 ? 12 : told;
        index = new int[years];
        budget = new int[years];
        for (int year = 0; year < years; year++) {
            index[year] = 1000;
        }
    }

    private static void bounds(long number, long least, long most) {
        if (number < least || number > most) {
            throw new IllegalArgumentException();
        }
    }

    private void year(int year) {
        bounds(year, 0, years - 1);
    }

    private Part partAt(int part) {
        bounds(part, 0, parts.size() - 1);
        return parts.get(part);
    }

    private Work workAt(int work) {
        bounds(work, 0, works.size() - 1);
        return works.get(work);
    }

    private static void differ(int a, int b) {
        if (a == b) {
            throw new IllegalArgumentException();
        }
    }

    private long cost(long cents, int year) {
        return BigInteger.valueOf(cents).multiply(BigInteger.valueOf(index[year]))
            .divide(BigInteger.valueOf(1000)).longValueExact();
    }

    long index(int year, int perMille) {
        year(year);
        bounds(perMille, 500, 2000);
        int was = index[year];
        index[year] = perMille;
        return was;
    }

    long budget(int year, int cents) {
        year(year);
        bounds(cents, 0, 1000000000);
        int was = budget[year];
        budget[year] = cents;
        return was;
    }

    long part(int states, int start) {
        bounds(states, 2, 4);
        bounds(start, 0, states - 1);
        if (parts.size() == 12) {
            throw new IllegalStateException();
        }
        Part part = new Part();
        part.states = states;
        part.start = start;
        parts.add(part);
        return parts.size() - 1;
    }

    long moves(int part, int from, int to, int sixteenths) {
        Part p = partAt(part);
        bounds(from, 0, p.states - 1);
        bounds(to, 0, p.states - 1);
        differ(from, to);
        bounds(sixteenths, 0, 16);
        int all = sixteenths;
        for (int other = 0; other < p.states; other++) {
            if (other != to) {
                all += p.moves[from][other];
            }
        }
        bounds(all, 0, 16);
        int was = p.moves[from][to];
        p.moves[from][to] = sixteenths;
        return was;
    }

    long care(int part, int state, int cents) {
        Part p = partAt(part);
        bounds(state, 0, p.states - 1);
        bounds(cents, 0, 1000);
        int was = p.care[state];
        p.care[state] = cents;
        return was;
    }

    private int latestBeginning(int part, int year) {
        int latest = 0;
        for (int work : choice) {
            Work w = works.get(work);
            if (w.part == part && w.year <= year && w.year > latest) {
                latest = w.year;
            }
        }
        return latest;
    }

    private static BigInteger[] sharesBehind(Part p, int k) {
        BigInteger[] shares = new BigInteger[p.states];
        if (k == 0) {
            for (int state = 0; state < p.states; state++) {
                shares[state] = state == p.start ? BigInteger.ONE : BigInteger.ZERO;
            }
            return shares;
        }
        BigInteger[] before = sharesBehind(p, k - 1);
        for (int state = 0; state < p.states; state++) {
            int stays = 16;
            BigInteger sum = BigInteger.ZERO;
            for (int other = 0; other < p.states; other++) {
                if (other != state) {
                    stays -= p.moves[state][other];
                    BigInteger going = BigInteger.valueOf(p.moves[other][state]);
                    sum = sum.add(before[other].multiply(going));
                }
            }
            shares[state] = sum.add(before[state].multiply(BigInteger.valueOf(stays)));
        }
        return shares;
    }

    private BigInteger[] sharesIn(int part, int year) {
        return sharesBehind(parts.get(part), year - latestBeginning(part, year));
    }

    long share(int part, int state, int year) {
        bounds(state, 0, partAt(part).states - 1);
        year(year);
        return sharesIn(part, year)[state].longValueExact();
    }

    long cares(int part, int year) {
        Part p = partAt(part);
        year(year);
        BigInteger sum = BigInteger.ZERO;
        BigInteger[] shares = sharesIn(part, year);
        for (int state = 0; state < p.states; state++) {
            sum = sum.add(shares[state].multiply(BigInteger.valueOf(p.care[state])));
        }
        BigInteger whole = BigInteger.valueOf(16).pow(year - latestBeginning(part, year));
        return cost(sum.divide(whole).longValueExact(), year);
    }

    long most(int part, int year) {
        Part p = partAt(part);
        year(year);
        BigInteger[] shares = sharesIn(part, year);
        BigInteger greatest = BigInteger.ZERO;
        for (BigInteger share : shares) {
            greatest = greatest.max(share);
        }
        int state = p.states - 1;
        while (!shares[state].equals(greatest)) {
            state--;
        }
        return state;
    }

    long work(int year, int cents, int worth, int part) {
        year(year);
        bounds(cents, 1, 1000000);
        bounds(worth, 0, 1000000);
        if (part != -1) {
            partAt(part);
        }
        if (works.size() == 10) {
            throw new IllegalStateException();
        }
        Work work = new Work();
        work.year = year;
        work.cents = cents;
        work.worth = worth;
        work.part = part;
        works.add(work);
        return works.size() - 1;
    }

    long join(int a, int b, int saves) {
        Work one = workAt(a);
        Work two = workAt(b);
        differ(a, b);
        bounds(saves, 0, 1000000);
        int was = one.saves[b];
        one.saves[b] = saves;
        two.saves[a] = saves;
        return was;
    }

    long clash(int a, int b, boolean on) {
        Work one = workAt(a);
        Work two = workAt(b);
        differ(a, b);
        boolean was = one.clashes.contains(b);
        if (on) {
            one.clashes.add(b);
            two.clashes.add(a);
        } else {
            one.clashes.remove(b);
            two.clashes.remove(a);
        }
        return was ? 1 : 0;
    }

    long needs(int work, int other) {
        Work w = workAt(work);
        if (other != -1) {
            workAt(other);
            differ(work, other);
        }
        int was = w.needs;
        w.needs = other;
        return was;
    }

    private Set<Integer> setOf(long number) {
        Set<Integer> set = new HashSet<>();
        for (int work = 0; work < works.size(); work++) {
            if ((number / (1L << work)) % 2 != 0) {
                set.add(work);
            }
        }
        return set;
    }

    private boolean clashOrLack(Set<Integer> set) {
        for (int work : set) {
            Work w = works.get(work);
            for (int other : set) {
                if (w.clashes.contains(other)) {
                    return true;
                }
            }
            if (w.needs != -1 && !(set.contains(w.needs) && works.get(w.needs).year <= w.year)) {
                return true;
            }
        }
        return false;
    }

    private long costOf(Set<Integer> set, int year) {
        long sum = 0;
        for (int work : set) {
            Work w = works.get(work);
            if (w.year == year) {
                sum += cost(w.cents, year);
                for (int other : set) {
                    if (other < work && works.get(other).year == year) {
                        sum -= w.saves[other];
                    }
                }
            }
        }
        return sum < 0 ? 0 : sum;
    }

    private long lackOf(Set<Integer> set) {
        long sum = 0;
        for (int year = 0; year < years; year++) {
            long over = costOf(set, year) - budget[year];
            sum += over > 0 ? over : 0;
        }
        return sum;
    }

    private long costInAll(Set<Integer> set) {
        long sum = 0;
        for (int year = 0; year < years; year++) {
            sum += costOf(set, year);
        }
        return sum;
    }

    private long worthInAll(Set<Integer> set) {
        long sum = 0;
        for (int work : set) {
            sum += works.get(work).worth;
        }
        return sum;
    }

    long choose() {
        List<Set<Integer>> best = new ArrayList<>();
        long bestWorth = -1;
        for (long number = 0; number < 1L << works.size(); number++) {
            Set<Integer> set = setOf(number);
            if (clashOrLack(set) || lackOf(set) > 0) {
                continue;
            }
            long worth = worthInAll(set);
            if (worth > bestWorth) {
                best.clear();
                bestWorth = worth;
            }
            if (worth == bestWorth) {
                best.add(set);
            }
        }
        long leastCost = Long.MAX_VALUE;
        for (Set<Integer> set : best) {
            leastCost = Math.min(leastCost, costInAll(set));
        }
        for (Set<Integer> set : best) {
            if (costInAll(set) == leastCost) {
                choice = set;
                break;
            }
        }
        return bestWorth;
    }

    long chosen(int work) {
        workAt(work);
        return choice.contains(work) ? 1 : 0;
    }

    long costs(int year) {
        year(year);
        return costOf(choice, year);
    }

    long lacks(int set) {
        Set<Integer> asked = setOf(set & 0xffffffffL);
        return clashOrLack(asked) ? -1 : lackOf(asked);
    }

    long money(int told, int deposited) {
        bounds(told, 0, 1000000000);
        bounds(deposited, 0, 1000000000);
        beginning = told;
        deposit = deposited;
        return 0;
    }

    long reserve(int year) {
        year(year);
        long reserve = (year == 0 ? beginning : reserve(year - 1)) + deposit - costs(year);
        for (int part = 0; part < parts.size(); part++) {
            reserve -= cares(part, year);
        }
        return reserve;
    }

    long shortIn() {
        for (int year = 0; year < years; year++) {
            if (reserve(year) < 0) {
                return year;
            }
        }
        return -1;
    }

    private static long restWith(long cents, int rate, long payment, int k) {
        if (k == 0) {
            return cents;
        }
        long before = restWith(cents, rate, payment, k - 1);
        long added = before * rate / 10000;
        if (added * 10000 < before * rate) {
            added++;
        }
        return Math.max(0, before + added - payment);
    }

    long payment(int cents, int rate, int n) {
        bounds(cents, 1, 1000000000);
        bounds(rate, 0, 2000);
        bounds(n, 1, 30);
        long low = 0;
        long high = 2000000000L;
        while (high - low > 1) {
            long middle = (low + high) / 2;
            if (restWith(cents, rate, middle, n) == 0) {
                high = middle;
            } else {
                low = middle;
            }
        }
        return high;
    }

    long rest(int cents, int rate, int n, int k) {
        long payment = payment(cents, rate, n);
        bounds(k, 0, n);
        return restWith(cents, rate, payment, k);
    }
}
