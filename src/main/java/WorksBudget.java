/**
 * Works on a road over years under budgets. A plan is held as a mask: bit c is choice c.
 * All rows are made in the constructors, so that no later call makes an object.
 */
public final class WorksBudget {
    public static final int BAD = -1;

    private static final int NO_PLAN = -1;
    private static final int MOST_YEARS = 6;
    private static final int MOST_THINGS = 12;
    private static final int MOST_CHOICES = 14;
    private static final int MOST_JOINS = 20;
    private static final int MOST_PLACE = 999;
    private static final int DISTRICTS = 4;
    private static final int POLICIES = 3;
    private static final long MOST_CENTS = 1_000_000L;
    private static final long MOST_WORTH = 1_000_000L;
    private static final long MOST_SAVES = 1_000_000L;
    private static final long MOST_BUDGET = 100_000_000L;
    private static final long MOST_FAIR = 10_000_000L;
    private static final long NO_FAIRNESS = -1L;
    private static final long MOST_NODES = 20_000L;
    /** At least as many as there are sets of choices. */
    private static final long ALL_NODES = 1L << MOST_CHOICES;
    private static final long ONE_MORE = 1_000L;
    /** More than Euclid's rule needs for any two longs. */
    private static final int MOST_DIVISIONS = 100;

    private final Works works;
    private final Search search;
    private final Bounds bounds;
    private final Policies policies;

    private int plan;
    private int oldPlan;
    private boolean provedByRun;
    // Two answers of a search over all, kept until something is told.
    private boolean bestIsKnown;
    private int bestOfAll;
    private boolean clashIsKnown;
    private int clashing;

    public WorksBudget(int years) {
        works = new Works(Math.max(1, Math.min(MOST_YEARS, years)));
        search = new Search(works);
        bounds = new Bounds(works);
        policies = new Policies(works);
        plan = NO_PLAN;
    }

    public int thing(int place) {
        if (place < 0 || place > MOST_PLACE || works.things >= MOST_THINGS) {
            return BAD;
        }
        forget();
        return works.addThing(place);
    }

    public int choice(int thing, int year, long cents, long worth) {
        if (!works.isThing(thing) || !works.isYear(year) || works.choices >= MOST_CHOICES) {
            return BAD;
        }
        if (!isWithin(cents, MOST_CENTS) || !isWithin(worth, MOST_WORTH)) {
            return BAD;
        }
        forget();
        return works.addChoice(thing, year, cents, worth);
    }

    public boolean must(int choice) {
        if (!works.isChoice(choice) || isIn(works.musts, choice)) {
            return false;
        }
        forget();
        works.musts |= 1 << choice;
        return true;
    }

    public boolean budget(int year, long cents) {
        if (!works.isYear(year) || !isWithin(cents, MOST_BUDGET)) {
            return false;
        }
        forget();
        works.budgets[year] = cents;
        return true;
    }

    public boolean join(int choiceA, int choiceB, long saves) {
        if (!works.isChoice(choiceA) || !works.isChoice(choiceB) || !isWithin(saves, MOST_SAVES)) {
            return false;
        }
        if (!works.canJoin(choiceA, choiceB) || works.joins >= MOST_JOINS) {
            return false;
        }
        forget();
        works.addJoin(choiceA, choiceB, saves);
        return true;
    }

    public boolean district(int thing, int d) {
        if (!works.isThing(thing) || !isDistrict(d)) {
            return false;
        }
        forget();
        works.districtOf[thing] = d;
        return true;
    }

    public boolean fair(long most) {
        if (most > MOST_FAIR) {
            return false;
        }
        forget();
        works.fairness = most < 0 ? NO_FAIRNESS : most;
        return true;
    }

    public int run(long nodes) {
        if (!isNodes(nodes)) {
            return BAD;
        }
        plan = search.bestPlan(nodes);
        boolean lookedAtAll = nodes >= works.countOfSets();
        provedByRun = lookedAtAll;
        if (!lookedAtAll) {
            return 1;
        }
        return plan == NO_PLAN ? 2 : 0;
    }

    public boolean chosen(int choice) {
        return works.isChoice(choice) && isIn(planOrNothing(), choice);
    }

    public long worth() {
        return plan == NO_PLAN ? BAD : works.worthOfPlan(plan);
    }

    public long bound(int part) {
        if (part == 0) {
            return bounds.byThings();
        }
        return part == 1 ? bounds.byPrices(0) : BAD;
    }

    public int clash(int k) {
        if (!clashIsKnown) {
            clashing = search.someHolds(works.musts) ? 0 : clashingMusts();
            clashIsKnown = true;
        }
        return memberOf(clashing, k);
    }

    public boolean proved() {
        return provedByRun;
    }

    public long price(int year, int part) {
        if (!works.isYear(year)) {
            return BAD;
        }
        if (part == 0) {
            return gainOfBest(year);
        }
        return part == 1 ? bounds.byPrices(ONE_MORE) - bounds.byPrices(0) : BAD;
    }

    public boolean old(int choice, boolean on) {
        if (!works.isChoice(choice)) {
            return false;
        }
        oldPlan = on ? oldPlan | 1 << choice : oldPlan & ~(1 << choice);
        return true;
    }

    public int changes(long nodes) {
        if (!isNodes(nodes)) {
            return BAD;
        }
        plan = search.nearestPlan(nodes, oldPlan);
        return plan == NO_PLAN ? BAD : Integer.bitCount(plan ^ oldPlan);
    }

    public int changed(int k) {
        return plan == NO_PLAN ? BAD : memberOf(plan ^ oldPlan, k);
    }

    public long backlog(int year) {
        if (!works.isYear(year)) {
            return BAD;
        }
        long sum = 0;
        for (int thing = 0; thing < works.things; thing++) {
            if (!works.isDoneBy(planOrNothing(), thing, year)) {
                sum += works.mostWorthBy(thing, year);
            }
        }
        return sum;
    }

    public int rank(int k) {
        for (int thing = 0; thing < works.things; thing++) {
            if (countOfThingsBefore(thing) == k) {
                return thing;
            }
        }
        return BAD;
    }

    public long share(int d, int part) {
        if (!isDistrict(d) || part < 0 || part > 1 || plan == NO_PLAN) {
            return BAD;
        }
        long whole = works.worthOfPlan(plan);
        long ofDistrict = works.worthOfDistrict(plan, d);
        long common = greatestDivisor(whole, ofDistrict);
        if (common == 0) {
            return part;
        }
        return part == 0 ? ofDistrict / common : whole / common;
    }

    public int policy(int k) {
        plan = policies.planBy(k);
        return plan == NO_PLAN ? BAD : (int) works.worthOfPlan(plan);
    }

    public long compare(int k, int other) {
        int one = policies.planBy(k);
        int two = policies.planBy(other);
        if (one == NO_PLAN || two == NO_PLAN) {
            return BAD;
        }
        return works.worthOfPlan(one) - works.worthOfPlan(two);
    }

    public int list(int d, int k) {
        if (!isDistrict(d) || k < 0) {
            return BAD;
        }
        int left = k;
        for (int year = 0; year < works.years; year++) {
            int listed = works.partOf(planOrNothing(), d, year);
            int count = Integer.bitCount(listed);
            if (left < count) {
                return memberOf(listed, left);
            }
            left -= count;
        }
        return BAD;
    }

    public int earlier(int k) {
        if (!works.isYear(k) || plan == NO_PLAN) {
            return BAD;
        }
        int count = 0;
        for (int choice = 0; choice < works.choices; choice++) {
            if (isIn(plan, choice) && works.yearOf[choice] < k) {
                count++;
            }
        }
        return count;
    }

    public boolean holds(int year) {
        return works.isYear(year) && plan != NO_PLAN && works.isWithinBudget(plan, year);
    }

    /** What was found counts no longer, once something new is told. */
    private void forget() {
        plan = NO_PLAN;
        provedByRun = false;
        bestIsKnown = false;
        clashIsKnown = false;
    }

    private int planOrNothing() {
        return plan == NO_PLAN ? 0 : plan;
    }

    private long gainOfBest(int year) {
        if (!bestIsKnown) {
            bestOfAll = search.bestPlan(ALL_NODES);
            bestIsKnown = true;
        }
        if (bestOfAll == NO_PLAN) {
            return BAD;
        }
        // What holds now holds with more cents too, so there is a plan then.
        int then = search.bestPlanWithMore(year, ONE_MORE);
        return works.worthOfPlan(then) - works.worthOfPlan(bestOfAll);
    }

    private int clashingMusts() {
        int wanted = works.musts;
        for (int choice = 0; choice < works.choices; choice++) {
            int others = wanted & ~(1 << choice);
            if (others != wanted && !search.someHolds(others)) {
                wanted = others;
            }
        }
        return wanted;
    }

    private int countOfThingsBefore(int thing) {
        int count = 0;
        for (int other = 0; other < works.things; other++) {
            if (works.ranksBefore(other, thing)) {
                count++;
            }
        }
        return count;
    }

    private static boolean isWithin(long value, long most) {
        return value >= 0 && value <= most;
    }

    private static boolean isDistrict(int d) {
        return d >= 0 && d < DISTRICTS;
    }

    private static boolean isNodes(long nodes) {
        return nodes >= 1 && nodes <= MOST_NODES;
    }

    private static boolean isIn(int set, int choice) {
        return (set >> choice & 1) == 1;
    }

    private static int memberOf(int set, int k) {
        int seen = 0;
        for (int choice = 0; choice < MOST_CHOICES; choice++) {
            if (isIn(set, choice)) {
                if (seen == k) {
                    return choice;
                }
                seen++;
            }
        }
        return BAD;
    }

    private static long greatestDivisor(long a, long b) {
        long greater = a;
        long lesser = b;
        for (int i = 0; i < MOST_DIVISIONS && lesser != 0; i++) {
            long rest = greater % lesser;
            greater = lesser;
            lesser = rest;
        }
        return greater;
    }

    /** What was told, and what follows from it for a given plan. */
    private static final class Works {
        final int years;
        final long[] budgets = new long[MOST_YEARS];
        int things;
        final int[] placeOf = new int[MOST_THINGS];
        final int[] districtOf = new int[MOST_THINGS];
        int choices;
        final int[] thingOf = new int[MOST_CHOICES];
        final int[] yearOf = new int[MOST_CHOICES];
        final long[] costOf = new long[MOST_CHOICES];
        final long[] worthOf = new long[MOST_CHOICES];
        int musts;
        int joins;
        // A join may save 0, so its two choices are marked beside what it saves.
        final int[] joinedTo = new int[MOST_CHOICES];
        final long[][] saves = new long[MOST_CHOICES][MOST_CHOICES];
        long fairness = NO_FAIRNESS;

        Works(int years) {
            this.years = years;
        }

        boolean isYear(int year) {
            return year >= 0 && year < years;
        }

        boolean isThing(int thing) {
            return thing >= 0 && thing < things;
        }

        boolean isChoice(int choice) {
            return choice >= 0 && choice < choices;
        }

        int countOfSets() {
            return 1 << choices;
        }

        int addThing(int place) {
            placeOf[things] = place;
            things++;
            return things - 1;
        }

        int addChoice(int thing, int year, long cents, long worth) {
            thingOf[choices] = thing;
            yearOf[choices] = year;
            costOf[choices] = cents;
            worthOf[choices] = worth;
            choices++;
            return choices - 1;
        }

        /** One choice twice is of one thing, so that it needs no test of its own. */
        boolean canJoin(int a, int b) {
            return thingOf[a] != thingOf[b] && yearOf[a] == yearOf[b] && !isIn(joinedTo[a], b);
        }

        void addJoin(int a, int b, long cents) {
            joinedTo[a] |= 1 << b;
            joinedTo[b] |= 1 << a;
            saves[a][b] = cents;
            saves[b][a] = cents;
            joins++;
        }

        /** What the joins of a choice with the choices of a set save. */
        long savesWith(int choice, int set) {
            int joined = joinedTo[choice] & set;
            long sum = 0;
            for (int other = 0; other < choices && joined >> other != 0; other++) {
                if ((joined >> other & 1) == 1) {
                    sum += saves[choice][other];
                }
            }
            return sum;
        }

        long savesOfAllJoins(int choice) {
            return savesWith(choice, joinedTo[choice]);
        }

        long spentIn(int set, int year) {
            long sum = 0;
            int counted = 0;
            for (int choice = 0; choice < choices; choice++) {
                if (isIn(set, choice) && yearOf[choice] == year) {
                    sum += costOf[choice] - savesWith(choice, counted);
                    counted |= 1 << choice;
                }
            }
            return Math.max(0L, sum);
        }

        boolean isWithinBudget(int set, int year) {
            return spentIn(set, year) <= budgets[year];
        }

        boolean isWithinAllBudgets(int set) {
            for (int year = 0; year < years; year++) {
                if (!isWithinBudget(set, year)) {
                    return false;
                }
            }
            return true;
        }

        boolean isPlan(int set) {
            int taken = 0;
            for (int choice = 0; choice < choices; choice++) {
                if (isIn(set, choice)) {
                    if (isIn(taken, thingOf[choice])) {
                        return false;
                    }
                    taken |= 1 << thingOf[choice];
                }
            }
            return true;
        }

        long worthOfPlan(int set) {
            long sum = 0;
            for (int choice = 0; choice < choices; choice++) {
                if (isIn(set, choice)) {
                    sum += worthOf[choice];
                }
            }
            return sum;
        }

        int districtOfChoice(int choice) {
            return districtOf[thingOf[choice]];
        }

        long worthOfDistrict(int set, int d) {
            long sum = 0;
            for (int choice = 0; choice < choices; choice++) {
                if (isIn(set, choice) && districtOfChoice(choice) == d) {
                    sum += worthOf[choice];
                }
            }
            return sum;
        }

        /** The districts that have things, as a mask. */
        int usedDistricts() {
            int used = 0;
            for (int thing = 0; thing < things; thing++) {
                used |= 1 << districtOf[thing];
            }
            return used;
        }

        /** The choices of a set that are of a district and a year. */
        int partOf(int set, int d, int year) {
            int part = 0;
            for (int choice = 0; choice < choices; choice++) {
                if (isIn(set, choice) && districtOfChoice(choice) == d && yearOf[choice] == year) {
                    part |= 1 << choice;
                }
            }
            return part;
        }

        boolean isDoneBy(int set, int thing, int year) {
            for (int choice = 0; choice < choices; choice++) {
                if (isIn(set, choice) && thingOf[choice] == thing && yearOf[choice] <= year) {
                    return true;
                }
            }
            return false;
        }

        long mostWorthBy(int thing, int year) {
            long most = 0;
            for (int choice = 0; choice < choices; choice++) {
                if (thingOf[choice] == thing && yearOf[choice] <= year) {
                    most = Math.max(most, worthOf[choice]);
                }
            }
            return most;
        }

        long mostWorth(int thing) {
            return mostWorthBy(thing, years - 1);
        }

        boolean ranksBefore(int a, int b) {
            long worthA = mostWorth(a);
            long worthB = mostWorth(b);
            if (worthA != worthB) {
                return worthA > worthB;
            }
            return placeOf[a] != placeOf[b] ? placeOf[a] < placeOf[b] : a < b;
        }
    }

    /**
     * Goes through all sets in their order, by deciding choice after choice, first with it, then
     * without it. Sets that can be no plan that holds, or none that is better than what was found,
     * are passed over, but each still counts as one that was looked at.
     */
    private static final class Search {
        private final Works works;

        // What is looked for.
        private long nodes;
        private int musts;
        private int oldPlan;
        private int compared;
        private boolean oneIsEnough;
        private int usedDistricts;
        private final long[] limits = new long[MOST_YEARS];
        // What choices not decided yet may still save in a year, or be worth, at most.
        private final long[][] savesFrom = new long[MOST_CHOICES + 1][MOST_YEARS];
        private final long[] worthFrom = new long[MOST_CHOICES + 1];

        // The choices picked on the way.
        private int picked;
        private int taken;
        private int sumOfYears;
        private long gained;
        private final long[] spent = new long[MOST_YEARS];
        private final long[] gainedIn = new long[DISTRICTS];

        // The best plan so far.
        private int best;
        private int bestChanges;
        private long bestWorth;
        private int bestSumOfYears;

        Search(Works works) {
            this.works = works;
        }

        int bestPlan(long nodesToSee) {
            prepare(nodesToSee, works.musts);
            lookFrom(0, 0);
            return best;
        }

        int bestPlanWithMore(int year, long cents) {
            prepare(ALL_NODES, works.musts);
            limits[year] += cents;
            lookFrom(0, 0);
            return best;
        }

        int nearestPlan(long nodesToSee, int old) {
            prepare(nodesToSee, works.musts);
            oldPlan = old;
            compared = works.countOfSets() - 1;
            lookFrom(0, 0);
            return best;
        }

        boolean someHolds(int mustsToHave) {
            prepare(ALL_NODES, mustsToHave);
            oneIsEnough = true;
            lookFrom(0, 0);
            return best != NO_PLAN;
        }

        private void prepare(long nodesToSee, int mustsToHave) {
            nodes = nodesToSee;
            musts = mustsToHave;
            oldPlan = 0;
            compared = 0;
            oneIsEnough = false;
            usedDistricts = works.usedDistricts();
            best = NO_PLAN;
            picked = 0;
            taken = 0;
            sumOfYears = 0;
            gained = 0;
            for (int d = 0; d < DISTRICTS; d++) {
                gainedIn[d] = 0;
            }
            for (int year = 0; year < MOST_YEARS; year++) {
                spent[year] = 0;
                limits[year] = works.budgets[year];
            }
            prepareRests();
        }

        private void prepareRests() {
            int last = works.choices;
            worthFrom[last] = 0;
            for (int year = 0; year < MOST_YEARS; year++) {
                savesFrom[last][year] = 0;
            }
            for (int choice = last - 1; choice >= 0; choice--) {
                worthFrom[choice] = worthFrom[choice + 1] + works.worthOf[choice];
                for (int year = 0; year < MOST_YEARS; year++) {
                    savesFrom[choice][year] = savesFrom[choice + 1][year];
                }
                int before = (1 << choice) - 1;
                savesFrom[choice][works.yearOf[choice]] += works.savesWith(choice, before);
            }
        }

        /** Looks at all sets that go on from here; so many sets were looked at before them. */
        private void lookFrom(int choice, long before) {
            if (before >= nodes || isHopeless(choice)) {
                return;
            }
            if (choice >= works.choices) {
                weigh();
                return;
            }
            lookWith(choice, before);
            lookWithout(choice, before + (1L << works.choices - 1 - choice));
        }

        private void lookWith(int choice, long before) {
            if (isIn(taken, works.thingOf[choice])) {
                return;
            }
            pick(choice, 1);
            if (!isOverspent(choice)) {
                lookFrom(choice + 1, before);
            }
            pick(choice, -1);
        }

        private void lookWithout(int choice, long before) {
            if (!isIn(musts, choice) && !isOverspent(choice)) {
                lookFrom(choice + 1, before);
            }
        }

        /** Takes a choice in (sign 1), or out again (sign -1), the last one first. */
        private void pick(int choice, int sign) {
            int year = works.yearOf[choice];
            long worth = works.worthOf[choice];
            spent[year] += sign * (works.costOf[choice] - works.savesWith(choice, picked));
            gainedIn[works.districtOfChoice(choice)] += sign * worth;
            gained += sign * worth;
            sumOfYears += sign * year;
            picked ^= 1 << choice;
            taken ^= 1 << works.thingOf[choice];
        }

        /**
         * Whether the year of the choice decided last can't come down to its limit any more. No
         * other year has changed by it, so at the end all years are within their limits.
         */
        private boolean isOverspent(int choice) {
            int year = works.yearOf[choice];
            return spent[year] - savesFrom[choice + 1][year] > limits[year];
        }

        private boolean isHopeless(int choice) {
            if (best == NO_PLAN) {
                return false;
            }
            int decided = (1 << choice) - 1;
            int changes = countOfChanges(decided);
            return oneIsEnough || changes > bestChanges
                || changes == bestChanges && gained + worthFrom[choice] < bestWorth;
        }

        private int countOfChanges(int decided) {
            return Integer.bitCount((picked ^ oldPlan) & compared & decided);
        }

        private void weigh() {
            int changes = countOfChanges(compared);
            if (isFair() && (best == NO_PLAN || isBetter(changes))) {
                best = picked;
                bestChanges = changes;
                bestWorth = gained;
                bestSumOfYears = sumOfYears;
            }
        }

        /** Of equal plans the one found first stays, as it comes first in the order. */
        private boolean isBetter(int changes) {
            if (changes != bestChanges) {
                return changes < bestChanges;
            }
            return gained != bestWorth ? gained > bestWorth : sumOfYears < bestSumOfYears;
        }

        private boolean isFair() {
            if (works.fairness == NO_FAIRNESS) {
                return true;
            }
            for (int a = 0; a < DISTRICTS; a++) {
                for (int b = 0; b < DISTRICTS; b++) {
                    if (isIn(usedDistricts, a) && isIn(usedDistricts, b)
                        && gainedIn[a] - gainedIn[b] > works.fairness) {
                        return false;
                    }
                }
            }
            return true;
        }
    }

    /** What no plan can be worth more than. */
    private static final class Bounds {
        private final Works works;

        Bounds(Works works) {
            this.works = works;
        }

        long byThings() {
            long sum = 0;
            for (int thing = 0; thing < works.things; thing++) {
                sum += works.mostWorth(thing);
            }
            return sum;
        }

        /** The sums are fractions; the least one cut off is the least of all of them cut off. */
        long byPrices(long moreCents) {
            long cents = moreCents;
            for (int year = 0; year < works.years; year++) {
                cents += works.budgets[year];
            }
            long least = byPrice(0, 1, cents);
            for (int choice = 0; choice < works.choices; choice++) {
                if (works.costOf[choice] > 0) {
                    long sum = byPrice(works.worthOf[choice], works.costOf[choice], cents);
                    least = Math.min(least, sum);
                }
            }
            return least;
        }

        /** All is counted in q-th parts, so that nothing is cut off before the end. */
        private long byPrice(long p, long q, long cents) {
            long parts = cents * p;
            for (int thing = 0; thing < works.things; thing++) {
                parts += mostPartsOf(thing, p, q);
            }
            return q > 0 ? parts / q : 0;
        }

        private long mostPartsOf(int thing, long p, long q) {
            long most = 0;
            for (int choice = 0; choice < works.choices; choice++) {
                if (works.thingOf[choice] == thing) {
                    long cost = works.costOf[choice] - works.savesOfAllJoins(choice);
                    most = Math.max(most, works.worthOf[choice] * q - p * cost);
                }
            }
            return most;
        }
    }

    /** Plans made by a plain rule, without a search. */
    private static final class Policies {
        private final Works works;
        private final int[] order = new int[MOST_CHOICES];

        Policies(Works works) {
            this.works = works;
        }

        int planBy(int policy) {
            int made = works.musts;
            if (policy < 0 || policy >= POLICIES || !isPossible(made)) {
                return NO_PLAN;
            }
            putInOrder(policy);
            for (int i = 0; i < works.choices; i++) {
                int more = made | 1 << order[i];
                if (isPossible(more)) {
                    made = more;
                }
            }
            return made;
        }

        private boolean isPossible(int set) {
            return works.isPlan(set) && works.isWithinAllBudgets(set);
        }

        private void putInOrder(int policy) {
            for (int choice = 0; choice < works.choices; choice++) {
                int before = 0;
                for (int other = 0; other < works.choices; other++) {
                    if (goesBefore(policy, other, choice)) {
                        before++;
                    }
                }
                order[before] = choice;
            }
        }

        private boolean goesBefore(int policy, int a, int b) {
            long lead = policy == 1 ? leadByWorthByCost(a, b) : works.worthOf[a] - works.worthOf[b];
            if (policy == 2 && works.yearOf[a] != works.yearOf[b]) {
                lead = works.yearOf[b] - works.yearOf[a];
            }
            return lead != 0 ? lead > 0 : a < b;
        }

        /** Above 0, if a has more worth by cost than b. */
        private long leadByWorthByCost(int a, int b) {
            long costA = works.costOf[a];
            long costB = works.costOf[b];
            if (costA == 0 || costB == 0) {
                return Long.compare(costB, costA);
            }
            return works.worthOf[a] * costB - works.worthOf[b] * costA;
        }
    }
}
