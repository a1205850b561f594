import java.math.BigInteger;
import java.util.ArrayList;
import java.util.Collections;
import java.util.Comparator;
import java.util.List;
import java.util.TreeSet;

/**
 * Long runs of made-up calls, each answered by the class and by a model that follows the words of
 * the document as slowly and as plainly as can be: sets of numbers, every set built and judged.
 */
public final class ModelTest {
    private static final int RUNS = 400;
    private static final int CALLS = 512;
    private static int wrong = 0;

    public static void main(String[] args) {
        for (int run = 0; run < RUNS && wrong == 0; run++) {
            oneRun(run);
        }
        System.out.println(wrong == 0 ? "the model agrees" : wrong + " answers differ from the model");
        if (wrong != 0) {
            System.exit(1);
        }
    }

    /** Numbers that are the same in each run of the test. */
    private static final class Dice {
        private long state;

        Dice(long seed) {
            state = seed * 0x9E3779B97F4A7C15L + 12345;
        }

        int below(int n) {
            state = state * 6364136223846793005L + 1442695040888963407L;
            return (int) ((state >>> 33) % n);
        }

        long upTo(long n) {
            return (((long) below(1 << 30) << 20) ^ below(1 << 30)) % (n + 1);
        }

        boolean oneOf(int n) {
            return below(n) == 0;
        }
    }

    private static final int[] ODD_INTS = {-1, -2, Integer.MIN_VALUE, Integer.MAX_VALUE, 32, 33, 6, 12, 14, 15, 1000, 999, 4, 3, 2};
    private static final long[] ODD_LONGS = {-1, Long.MIN_VALUE, Long.MAX_VALUE, 1_000_000L, 1_000_001L,
        100_000_000L, 100_000_001L, 10_000_000L, 10_000_001L, 20_000L, 20_001L, 1L << 32, (1L << 32) + 1, 0, 1};

    private static int near(Dice dice, int n) {
        if (dice.oneOf(25)) {
            return ODD_INTS[dice.below(ODD_INTS.length)];
        }
        return dice.oneOf(20) ? n : dice.below(Math.max(1, n));
    }

    private static long amount(Dice dice, long most) {
        return dice.oneOf(25) ? ODD_LONGS[dice.below(ODD_LONGS.length)] : dice.upTo(most);
    }

    private static void oneRun(int run) {
        Dice dice = new Dice(run);
        int years = dice.oneOf(10) ? dice.below(20) - 8 : 1 + dice.below(6);
        WorksBudget x = new WorksBudget(years);
        Model m = new Model(years);
        // The greater the numbers, the fewer the ties, so some runs have few of them.
        long scale = dice.oneOf(4) ? 1_000_000L : dice.oneOf(2) ? 3000 : 6;
        int mostChoices = run % 20 == 0 ? 14 : 2 + dice.below(8);
        int mostThings = run % 20 == 0 ? 12 : 1 + dice.below(8);
        int calls = run % 20 == 0 ? 150 : CALLS;
        for (int i = 0; i < calls; i++) {
            int kind;
            if (i < 60) {
                kind = dice.below(9);
            } else {
                kind = dice.oneOf(12) ? dice.below(9) : 9 + dice.below(18);
            }
            if (kind == 0 && m.places.size() >= mostThings && !dice.oneOf(30)) {
                kind = 3;
            }
            if ((kind == 1 || kind == 7) && m.choices.size() >= mostChoices && !dice.oneOf(200)) {
                kind = 4;
            }
            if (kind == 2 && i < 60 && !dice.oneOf(3)) {
                kind = 3;
            }
            call(run, i, kind, x, m, dice, scale);
            if (wrong > 0) {
                return;
            }
        }
    }

    private static void due(int run, int i, String call, long got, long want) {
        if (got != want) {
            wrong++;
            System.out.println("run " + run + ", call " + i + ": " + call + " answered " + got + ", the model says " + want);
        }
    }

    private static long bit(boolean b) {
        return b ? 1 : 0;
    }

    private static void call(int run, int i, int kind, WorksBudget x, Model m, Dice dice, long scale) {
        int things = m.places.size();
        int n = m.choices.size();
        int y = m.years;
        if (kind == 0) {
            int place = dice.oneOf(3) ? near(dice, 1000) : dice.below(4);
            due(run, i, "thing(" + place + ")", x.thing(place), m.thing(place));
        } else if (kind == 1 || kind == 7) {
            int t = near(dice, things);
            int year = near(dice, y);
            long cents = dice.oneOf(8) ? 0 : amount(dice, scale);
            long worth = amount(dice, scale);
            due(run, i, "choice(" + t + ", " + year + ", " + cents + ", " + worth + ")",
                x.choice(t, year, cents, worth), m.choice(t, year, cents, worth));
        } else if (kind == 2) {
            int c = near(dice, n);
            due(run, i, "must(" + c + ")", bit(x.must(c)), bit(m.must(c)));
        } else if (kind == 3 || kind == 8) {
            int year = near(dice, y);
            long cents = amount(dice, scale * (1 + dice.below(3)));
            due(run, i, "budget(" + year + ", " + cents + ")", bit(x.budget(year, cents)), bit(m.budget(year, cents)));
        } else if (kind == 4) {
            int a = near(dice, n);
            int b = near(dice, n);
            long saves = amount(dice, scale / 2);
            due(run, i, "join(" + a + ", " + b + ", " + saves + ")", bit(x.join(a, b, saves)), bit(m.join(a, b, saves)));
        } else if (kind == 5) {
            int t = near(dice, things);
            int d = near(dice, 4);
            due(run, i, "district(" + t + ", " + d + ")", bit(x.district(t, d)), bit(m.district(t, d)));
        } else if (kind == 6) {
            long most = dice.oneOf(2) ? -1 - dice.upTo(5) : amount(dice, scale * 2);
            due(run, i, "fair(" + most + ")", bit(x.fair(most)), bit(m.fair(most)));
        } else {
            ask(run, i, kind, x, m, dice);
        }
    }

    private static void ask(int run, int i, int kind, WorksBudget x, Model m, Dice dice) {
        int n = m.choices.size();
        int y = m.years;
        long sets = 1L << n;
        long nodes = dice.oneOf(3) ? 20_000 : dice.oneOf(4) ? sets : dice.oneOf(4) ? sets - 1 : amount(dice, sets);
        int c = near(dice, n);
        int year = near(dice, y);
        int d = near(dice, 4);
        int part = near(dice, 2);
        int k = dice.oneOf(2) ? dice.below(3) : near(dice, 14);
        int p = near(dice, 3);
        int other = near(dice, 3);
        boolean on = dice.oneOf(2);
        switch (kind) {
            case 9 -> due(run, i, "run(" + nodes + ")", x.run(nodes), m.run(nodes));
            case 10 -> due(run, i, "chosen(" + c + ")", bit(x.chosen(c)), bit(m.chosen(c)));
            case 11 -> due(run, i, "worth()", x.worth(), m.worth());
            case 12 -> due(run, i, "bound(" + part + ")", x.bound(part), m.bound(part));
            case 13 -> due(run, i, "clash(" + k + ")", x.clash(k), m.clash(k));
            case 14 -> due(run, i, "proved()", bit(x.proved()), bit(m.proved));
            case 15 -> due(run, i, "price(" + year + ", " + part + ")", x.price(year, part), m.price(year, part));
            case 16 -> due(run, i, "old(" + c + ", " + on + ")", bit(x.old(c, on)), bit(m.old(c, on)));
            case 17 -> due(run, i, "changes(" + nodes + ")", x.changes(nodes), m.changes(nodes));
            case 18 -> due(run, i, "changed(" + k + ")", x.changed(k), m.changed(k));
            case 19 -> due(run, i, "backlog(" + year + ")", x.backlog(year), m.backlog(year));
            case 20 -> due(run, i, "rank(" + k + ")", x.rank(k), m.rank(k));
            case 21 -> due(run, i, "share(" + d + ", " + part + ")", x.share(d, part), m.share(d, part));
            case 22 -> due(run, i, "policy(" + p + ")", x.policy(p), m.policy(p));
            case 23 -> due(run, i, "compare(" + p + ", " + other + ")", x.compare(p, other), m.compare(p, other));
            case 24 -> due(run, i, "list(" + d + ", " + k + ")", x.list(d, k), m.list(d, k));
            case 25 -> due(run, i, "earlier(" + year + ")", x.earlier(year), m.earlier(year));
            default -> due(run, i, "holds(" + year + ")", bit(x.holds(year)), bit(m.holds(year)));
        }
    }

    private record Choice(int thing, int year, long cost, long worth) {
    }

    private record Join(int a, int b, long saves) {
    }

    private static final class Model {
        final int years;
        final List<Integer> places = new ArrayList<>();
        final List<Integer> districts = new ArrayList<>();
        final List<Choice> choices = new ArrayList<>();
        final List<Join> joins = new ArrayList<>();
        final TreeSet<Integer> musts = new TreeSet<>();
        final TreeSet<Integer> olds = new TreeSet<>();
        final long[] budgets;
        long fairness = -1;
        TreeSet<Integer> plan = null;
        boolean proved = false;
        // The clash is dear, and the same until something is told.
        List<Integer> clashes = null;

        Model(int years) {
            this.years = years < 1 ? 1 : years > 6 ? 6 : years;
            budgets = new long[this.years];
        }

        void told() {
            plan = null;
            proved = false;
            clashes = null;
        }

        boolean within(long value, long least, long most) {
            return least <= value && value <= most;
        }

        boolean isThing(int t) {
            return within(t, 0, places.size() - 1);
        }

        boolean isChoice(int c) {
            return within(c, 0, choices.size() - 1);
        }

        boolean isYear(int year) {
            return within(year, 0, years - 1);
        }

        int thing(int place) {
            if (!within(place, 0, 999) || places.size() == 12) {
                return -1;
            }
            told();
            places.add(place);
            districts.add(0);
            return places.size() - 1;
        }

        int choice(int t, int year, long cents, long worth) {
            if (!isThing(t) || !isYear(year) || !within(cents, 0, 1_000_000) || !within(worth, 0, 1_000_000)
                || choices.size() == 14) {
                return -1;
            }
            told();
            choices.add(new Choice(t, year, cents, worth));
            return choices.size() - 1;
        }

        boolean must(int c) {
            if (!isChoice(c) || musts.contains(c)) {
                return false;
            }
            told();
            return musts.add(c);
        }

        boolean budget(int year, long cents) {
            if (!isYear(year) || !within(cents, 0, 100_000_000)) {
                return false;
            }
            told();
            budgets[year] = cents;
            return true;
        }

        boolean join(int a, int b, long saves) {
            if (!isChoice(a) || !isChoice(b) || !within(saves, 0, 1_000_000) || a == b || joins.size() == 20) {
                return false;
            }
            if (choices.get(a).year() != choices.get(b).year() || choices.get(a).thing() == choices.get(b).thing()) {
                return false;
            }
            for (Join j : joins) {
                if (j.a() == a && j.b() == b || j.a() == b && j.b() == a) {
                    return false;
                }
            }
            told();
            return joins.add(new Join(a, b, saves));
        }

        boolean district(int t, int d) {
            if (!isThing(t) || !within(d, 0, 3)) {
                return false;
            }
            told();
            districts.set(t, d);
            return true;
        }

        boolean fair(long most) {
            if (most > 10_000_000) {
                return false;
            }
            told();
            fairness = Math.max(-1, most);
            return true;
        }

        boolean isPlan(TreeSet<Integer> set) {
            TreeSet<Integer> things = new TreeSet<>();
            for (int c : set) {
                if (!things.add(choices.get(c).thing())) {
                    return false;
                }
            }
            return true;
        }

        long spent(TreeSet<Integer> set, int year) {
            long sum = 0;
            for (int c : set) {
                sum += choices.get(c).year() == year ? choices.get(c).cost() : 0;
            }
            for (Join j : joins) {
                if (set.contains(j.a()) && set.contains(j.b()) && choices.get(j.a()).year() == year) {
                    sum -= j.saves();
                }
            }
            return Math.max(sum, 0);
        }

        boolean paid(TreeSet<Integer> set, long[] limits) {
            for (int year = 0; year < years; year++) {
                if (spent(set, year) > limits[year]) {
                    return false;
                }
            }
            return true;
        }

        long worthOf(TreeSet<Integer> set) {
            return set.stream().mapToLong(c -> choices.get(c).worth()).sum();
        }

        long worthIn(TreeSet<Integer> set, int d) {
            return set.stream().filter(c -> districts.get(choices.get(c).thing()) == d)
                .mapToLong(c -> choices.get(c).worth()).sum();
        }

        boolean isFair(TreeSet<Integer> set) {
            if (fairness >= 0) {
                for (int a : districts) {
                    for (int b : districts) {
                        if (Math.abs(worthIn(set, a) - worthIn(set, b)) > fairness) {
                            return false;
                        }
                    }
                }
            }
            return true;
        }

        /** The set that stands at a place of the order: choice 0 decides first, and having it comes first. */
        TreeSet<Integer> setAt(long place) {
            TreeSet<Integer> set = new TreeSet<>();
            int n = choices.size();
            for (int c = 0; c < n; c++) {
                if ((place >> (n - 1 - c)) % 2 == 0) {
                    set.add(c);
                }
            }
            return set;
        }

        long yearsOf(TreeSet<Integer> set) {
            return set.stream().mapToLong(c -> choices.get(c).year()).sum();
        }

        long changesOf(TreeSet<Integer> set) {
            long count = 0;
            for (int c = 0; c < choices.size(); c++) {
                count += set.contains(c) != olds.contains(c) ? 1 : 0;
            }
            return count;
        }

        TreeSet<Integer> find(long nodes, TreeSet<Integer> needed, long[] limits, boolean near) {
            TreeSet<Integer> best = null;
            for (long place = 0; place < Math.min(nodes, 1L << choices.size()); place++) {
                TreeSet<Integer> set = setAt(place);
                if (!isPlan(set) || !set.containsAll(needed) || !paid(set, limits) || !isFair(set)) {
                    continue;
                }
                if (best == null || isBefore(set, best, near)) {
                    best = set;
                }
            }
            return best;
        }

        boolean isBefore(TreeSet<Integer> set, TreeSet<Integer> best, boolean near) {
            if (near && changesOf(set) != changesOf(best)) {
                return changesOf(set) < changesOf(best);
            }
            if (worthOf(set) != worthOf(best)) {
                return worthOf(set) > worthOf(best);
            }
            return yearsOf(set) < yearsOf(best);
        }

        int run(long nodes) {
            if (!within(nodes, 1, 20_000)) {
                return -1;
            }
            plan = find(nodes, musts, budgets, false);
            proved = nodes >= 1L << choices.size();
            return !proved ? 1 : plan == null ? 2 : 0;
        }

        boolean chosen(int c) {
            return plan != null && plan.contains(c);
        }

        long worth() {
            return plan == null ? -1 : worthOf(plan);
        }

        long most(int t, int lastYear) {
            return choices.stream().filter(c -> c.thing() == t && c.year() <= lastYear)
                .mapToLong(Choice::worth).max().orElse(0);
        }

        long bound(int part) {
            if (part == 0) {
                long sum = 0;
                for (int t = 0; t < places.size(); t++) {
                    sum += most(t, years);
                }
                return sum;
            }
            return part == 1 ? boundByPrices(0) : -1;
        }

        long boundByPrices(long more) {
            List<long[]> prices = new ArrayList<>();
            prices.add(new long[] {0, 1});
            for (Choice c : choices) {
                if (c.cost() > 0) {
                    prices.add(new long[] {c.worth(), c.cost()});
                }
            }
            BigInteger upper = null;
            BigInteger lower = null;
            for (long[] price : prices) {
                BigInteger q = BigInteger.valueOf(price[1]);
                BigInteger sum = sumAt(BigInteger.valueOf(price[0]), q, more);
                if (upper == null || sum.multiply(lower).compareTo(upper.multiply(q)) < 0) {
                    upper = sum;
                    lower = q;
                }
            }
            return upper.divide(lower).longValueExact();
        }

        BigInteger sumAt(BigInteger p, BigInteger q, long more) {
            BigInteger sum = p.multiply(BigInteger.valueOf(more));
            for (long b : budgets) {
                sum = sum.add(p.multiply(BigInteger.valueOf(b)));
            }
            for (int t = 0; t < places.size(); t++) {
                BigInteger most = BigInteger.ZERO;
                for (int c = 0; c < choices.size(); c++) {
                    if (choices.get(c).thing() == t) {
                        BigInteger gain = q.multiply(BigInteger.valueOf(choices.get(c).worth()))
                            .subtract(p.multiply(BigInteger.valueOf(costLessJoins(c))));
                        most = most.max(gain);
                    }
                }
                sum = sum.add(most);
            }
            return sum;
        }

        long costLessJoins(int c) {
            long cost = choices.get(c).cost();
            for (Join j : joins) {
                cost -= j.a() == c || j.b() == c ? j.saves() : 0;
            }
            return cost;
        }

        int clash(int k) {
            if (clashes == null) {
                clashes = new ArrayList<>();
                if (find(20_000, musts, budgets, false) == null) {
                    TreeSet<Integer> kept = new TreeSet<>(musts);
                    for (int c : musts) {
                        TreeSet<Integer> others = new TreeSet<>(kept);
                        others.remove(c);
                        if (find(20_000, others, budgets, false) == null) {
                            kept = others;
                        }
                    }
                    clashes.addAll(kept);
                }
            }
            return at(clashes, k);
        }

        int at(List<Integer> row, int k) {
            return within(k, 0, row.size() - 1) ? row.get(k) : -1;
        }

        long price(int year, int part) {
            if (!isYear(year) || !within(part, 0, 1)) {
                return -1;
            }
            if (part == 1) {
                return boundByPrices(1000) - boundByPrices(0);
            }
            TreeSet<Integer> now = find(20_000, musts, budgets, false);
            if (now == null) {
                return -1;
            }
            long[] more = budgets.clone();
            more[year] += 1000;
            return worthOf(find(20_000, musts, more, false)) - worthOf(now);
        }

        boolean old(int c, boolean on) {
            if (!isChoice(c)) {
                return false;
            }
            if (on) {
                olds.add(c);
            } else {
                olds.remove(c);
            }
            return true;
        }

        int changes(long nodes) {
            if (!within(nodes, 1, 20_000)) {
                return -1;
            }
            plan = find(nodes, musts, budgets, true);
            return plan == null ? -1 : (int) changesOf(plan);
        }

        int changed(int k) {
            List<Integer> row = new ArrayList<>();
            for (int c = 0; plan != null && c < choices.size(); c++) {
                if (plan.contains(c) != olds.contains(c)) {
                    row.add(c);
                }
            }
            return at(row, k);
        }

        long backlog(int year) {
            if (!isYear(year)) {
                return -1;
            }
            long sum = 0;
            for (int t = 0; t < places.size(); t++) {
                boolean done = false;
                for (int c = 0; c < choices.size(); c++) {
                    done |= chosen(c) && choices.get(c).thing() == t && choices.get(c).year() <= year;
                }
                sum += done ? 0 : most(t, year);
            }
            return sum;
        }

        int rank(int k) {
            List<Integer> row = new ArrayList<>();
            for (int t = 0; t < places.size(); t++) {
                row.add(t);
            }
            Comparator<Integer> byWorth = Comparator.comparing(t -> -most(t, years));
            row.sort(byWorth.thenComparing(t -> places.get(t)));
            return at(row, k);
        }

        long share(int d, int part) {
            if (!within(d, 0, 3) || !within(part, 0, 1) || plan == null) {
                return -1;
            }
            BigInteger upper = BigInteger.valueOf(worthIn(plan, d));
            BigInteger lower = BigInteger.valueOf(worthOf(plan));
            if (lower.signum() == 0) {
                return part;
            }
            return (part == 0 ? upper : lower).divide(upper.gcd(lower)).longValueExact();
        }

        List<Integer> policyOrder(int k) {
            List<Integer> row = new ArrayList<>();
            for (int c = 0; c < choices.size(); c++) {
                row.add(c);
            }
            Comparator<Integer> byWorth = Comparator.comparing(c -> -choices.get(c).worth());
            Comparator<Integer> byYear = Comparator.comparing(c -> choices.get(c).year());
            Comparator<Integer> byRate = (a, b) -> {
                Choice one = choices.get(a);
                Choice two = choices.get(b);
                if (one.cost() == 0 || two.cost() == 0) {
                    return Boolean.compare(one.cost() != 0, two.cost() != 0);
                }
                return BigInteger.valueOf(two.worth()).multiply(BigInteger.valueOf(one.cost()))
                    .compareTo(BigInteger.valueOf(one.worth()).multiply(BigInteger.valueOf(two.cost())));
            };
            Collections.sort(row, k == 0 ? byWorth : k == 1 ? byRate : byYear.thenComparing(byWorth));
            return row;
        }

        TreeSet<Integer> policyPlan(int k) {
            if (!within(k, 0, 2) || !isPlan(musts) || !paid(musts, budgets)) {
                return null;
            }
            TreeSet<Integer> made = new TreeSet<>(musts);
            for (int c : policyOrder(k)) {
                TreeSet<Integer> more = new TreeSet<>(made);
                more.add(c);
                if (isPlan(more) && paid(more, budgets)) {
                    made = more;
                }
            }
            return made;
        }

        int policy(int k) {
            plan = policyPlan(k);
            return (int) worth();
        }

        long compare(int k, int other) {
            TreeSet<Integer> one = policyPlan(k);
            TreeSet<Integer> two = policyPlan(other);
            return one == null || two == null ? -1 : worthOf(one) - worthOf(two);
        }

        int list(int d, int k) {
            List<Integer> row = new ArrayList<>();
            if (plan != null) {
                row.addAll(plan);
            }
            row.removeIf(c -> districts.get(choices.get(c).thing()) != d);
            row.sort(Comparator.comparing(c -> choices.get(c).year()));
            return at(row, k);
        }

        int earlier(int k) {
            if (!isYear(k) || plan == null) {
                return -1;
            }
            return (int) plan.stream().filter(c -> choices.get(c).year() < k).count();
        }

        boolean holds(int year) {
            return isYear(year) && plan != null && spent(plan, year) <= budgets[year];
        }
    }
}
