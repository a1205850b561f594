import java.util.function.Supplier;
import java.util.function.ToLongFunction;

/**
 * Each sentence of the document that names a boundary case (too small, too large, empty, full, a
 * wrap-around, a refused call) has a test of its own here: the value just inside and the value just
 * outside of its bound, and what a refused call leaves as it was.
 */
public final class EdgesTest {
    private static final int BAD = -1;
    private static final int LEAST = Integer.MIN_VALUE;
    private static final int GREATEST = Integer.MAX_VALUE;
    private static final long MILLION = 1_000_000L;
    private static int wrong = 0;
    private static String sentence = "";

    public static void main(String[] args) {
        terms();
        telling();
        searching();
        asking();
        policies();
        wholeObject();
        System.out.println(wrong == 0 ? "all edges hold" : wrong + " answers are not as due");
        if (wrong != 0) {
            System.exit(1);
        }
    }

    private static void terms() {
        yearsUpToTheLast();
        thingsUpToTheLast();
        placesFrom0To999();
        districtsFrom0To3();
        districtIs0AtFirst();
        choicesUpToTheLast();
        atMostOneChoiceForEachThing();
        joinsSaveOnlyIfBothAreIn();
        joinsAreOfAnyTwoChoices();
        spentIsNotBelow0();
        spentIsAtMostTheBudget();
        budgetIs0AtFirst();
        allMustsAreIn();
        districtsDifferByAtMostThat();
        districtsWithoutThingsDoNotCount();
        eachSetHasItsPlaceInOrder();
        betterHasMoreWorth();
        betterHasTheLesserSumOfYears();
        betterComesFirst();
        whatIsToldTakesThePlan();
        oldLeavesThePlan();
        whatFoundNoneLeavesNone();
        questionsLeaveAllAsItWas();
        questionsLeaveTheNextSearch();
    }

    private static void telling() {
        yearsBelow1AndAbove6();
        nothingIsToldAtFirst();
        noSuchPlace();
        atMost12Things();
        noSuchThingOrYear();
        centsFrom0ToAMillion();
        worthFrom0ToAMillion();
        atMost14Choices();
        mustOfNoneSuchOrTwice();
        budgetFrom0To100Million();
        budgetOfNoSuchYear();
        savesFrom0ToAMillion();
        joinOfNoneSuch();
        joinOfTheSame();
        joinNotOfOneYear();
        joinOfOneThing();
        joinThatIsThere();
        atMost20Joins();
        districtOfNoneSuch();
        fairUpTo10Million();
        fairBelow0IsNone();
    }

    private static void searching() {
        runOfOtherNodes();
        runLooksAtTheFirstNodes();
        runTellsWhetherAllWereLookedAt();
        runTellsThatNoneHolds();
        chosenOfNoneSuch();
        worthWithoutAPlan();
        provedByARunOverAll();
        provedUntilSomethingIsTold();
        provedWhateverElseIsAsked();
        oldOfNoneSuch();
        oldIsInOrNot();
        changesOfOtherNodes();
        changesLooksAtTheFirstNodes();
        changesFindsNone();
        changesAreFewestFirst();
        changesOfNoneAndOfAll();
        changedOfNoneSuch();
    }

    private static void asking() {
        boundOfAnotherPart();
        boundOfThingsWithoutChoices();
        boundHasPrice0();
        boundTakesNoPriceOfCost0();
        boundByCostsBelow0();
        boundIsCutOff();
        clashWhileSomePlanHolds();
        clashOfNoneSuch();
        clashKeepsWhatIsWanted();
        priceOfNoneSuch();
        priceOf1000CentsMore();
        priceWithoutAPlanThatHolds();
        priceWhenOnlyTheEmptyPlanHolds();
        priceBeyondTheGreatestBudget();
        backlogOfNoSuchYear();
        backlogUpToThisYear();
        backlogWithoutAPlan();
        rankOfNoneSuch();
        rankOfEqualOnes();
        shareOfNoneSuch();
        shareWithoutAPlan();
        shareOfNothing();
        shareInLeastTerms();
        listOfNoneSuch();
        listByYearThenByChoice();
        earlierOfNoSuchYear();
        earlierThanThisYear();
        holdsOfNoneSuch();
        holdsAtMostTheBudget();
    }

    private static void policies() {
        policyOfAnotherKind();
        policyWhenMustsDoNotHold();
        policyWhenMustsAreOfOneThing();
        policyDoesNotCountFairness();
        policyTakesWhatStillHolds();
        policyByWorthOfEqualOnes();
        policyByWorthByCost0();
        policyByYearThenWorth();
        compareOfNone();
        compareLeavesThePlan();
    }

    private static void wholeObject() {
        greatestNumbers();
        theLastOf512Calls();
    }

    private static void due(String call, long got, long want) {
        if (got != want) {
            wrong++;
            System.out.println(sentence + ": " + call + " answered " + got + ", due is " + want);
        }
    }

    private static void due(String call, boolean got, boolean want) {
        due(call, bit(got), bit(want));
    }

    private static int bit(boolean b) {
        return b ? 1 : 0;
    }

    /** Answers as due, and then can't be told from a twin that was not asked. */
    private static void leaves(String call, Supplier<WorksBudget> made, ToLongFunction<WorksBudget> asked, long want) {
        WorksBudget x = made.get();
        due(call, asked.applyAsLong(x), want);
        String seen = look(x);
        String twin = look(made.get());
        if (!seen.equals(twin)) {
            wrong++;
            System.out.println(sentence + ": " + call + " changed something\n  " + seen + "\n  " + twin);
        }
    }

    /** A call is refused on a new object, an ordinary one and a full one. */
    private static void refused(String call, ToLongFunction<WorksBudget> asked, long want) {
        leaves(call + " of an empty object", EdgesTest::empty, asked, want);
        leaves(call + " of an ordinary object", EdgesTest::ordinary, asked, want);
        leaves(call + " of a full object", EdgesTest::full, asked, want);
    }

    /** Something told to an ordinary object answers as due, and no plan is at hand then. */
    private static void told(String call, ToLongFunction<WorksBudget> asked, long want) {
        WorksBudget x = ordinary();
        due("worth() before " + call, x.worth(), 105);
        due("proved() before " + call, x.proved(), true);
        due(call, asked.applyAsLong(x), want);
        due("worth() after " + call, x.worth(), BAD);
        due("proved() after " + call, x.proved(), false);
    }

    private static WorksBudget empty() {
        return new WorksBudget(3);
    }

    /** Its best plan has the choices 0, 2 and 3, is worth 105, and is at hand and proved. */
    private static WorksBudget ordinary() {
        WorksBudget x = new WorksBudget(3);
        int[] places = {10, 20, 20, 5};
        for (int place : places) {
            x.thing(place);
        }
        x.district(1, 1);
        x.district(2, 3);
        x.choice(0, 0, 500, 40);
        x.choice(0, 1, 450, 38);
        x.choice(1, 0, 300, 30);
        x.choice(2, 1, 400, 35);
        x.choice(2, 2, 350, 33);
        x.choice(3, 1, 100, 0);
        x.join(0, 2, 200);
        x.join(1, 3, 150);
        x.must(2);
        x.budget(0, 650);
        x.budget(1, 700);
        x.budget(2, 100);
        x.fair(45);
        x.old(1, true);
        x.old(4, true);
        x.run(20_000);
        return x;
    }

    /** 12 things, 14 choices, 20 joins, 6 years, and a plan at hand that is proved. */
    private static WorksBudget full() {
        WorksBudget x = new WorksBudget(6);
        for (int t = 0; t < 12; t++) {
            x.thing(83 * t % 1000);
            x.district(t, t % 4);
        }
        for (int c = 0; c < 14; c++) {
            x.choice(c % 12, c < 7 ? 0 : c % 6, 100 + 10 * c, 50 + 37 * c % 41);
        }
        joinAll(x, 7, 20, 5);
        for (int year = 0; year < 6; year++) {
            x.budget(year, 380 - 30 * year);
        }
        x.must(3);
        x.fair(120);
        x.old(5, true);
        x.old(13, true);
        x.run(20_000);
        return x;
    }

    /** Joins each two of the first choices, up to so many. */
    private static void joinAll(WorksBudget x, int choices, int most, long saves) {
        int joins = 0;
        for (int a = 0; a < choices; a++) {
            for (int b = a + 1; b < choices && joins < most; b++) {
                due("join(" + a + ", " + b + ", " + saves + ")", x.join(a, b, saves), true);
                joins++;
            }
        }
    }

    /** Things 0 .. n - 1, each with one choice in year 0 of this cost and worth. */
    private static WorksBudget row(int years, int n, long cents, long worth) {
        WorksBudget x = new WorksBudget(years);
        for (int t = 0; t < n; t++) {
            x.thing(t);
            x.choice(t, 0, cents, worth);
        }
        return x;
    }

    /** So many choices, of as many things as there may be. */
    private static WorksBudget withChoices(int n, long cents, long worth) {
        WorksBudget x = new WorksBudget(2);
        for (int t = 0; t < 12; t++) {
            x.thing(t);
        }
        for (int c = 0; c < n; c++) {
            due("choice " + c, x.choice(c % 12, 0, cents, worth), c);
        }
        return x;
    }

    /** One thing with choices of years, all free and of a worth. */
    private static WorksBudget oneThing(int[] yearsOf, long[] worths) {
        WorksBudget x = new WorksBudget(6);
        x.thing(0);
        for (int c = 0; c < yearsOf.length; c++) {
            x.choice(0, yearsOf[c], 0, worths[c]);
        }
        return x;
    }

    private static int plan(WorksBudget x) {
        int set = 0;
        for (int c = 0; c < 14; c++) {
            set |= bit(x.chosen(c)) << c;
        }
        return set;
    }

    private static int bestPlan(WorksBudget x) {
        x.run(20_000);
        return plan(x);
    }

    private static long bestWorth(WorksBudget x) {
        x.run(20_000);
        return x.worth();
    }

    /** All that can be seen of an object; some 300 calls, and it is no good after them. */
    private static String look(WorksBudget x) {
        StringBuilder seen = new StringBuilder();
        lookAtThePlan(x, seen);
        lookAtTheRest(x, seen);
        lookByFinding(x, seen);
        lookByTelling(x, seen);
        return seen.toString();
    }

    private static void lookAtThePlan(WorksBudget x, StringBuilder seen) {
        seen.append(plan(x)).append(' ').append(x.worth()).append(' ').append(x.proved());
        for (int year = 0; year < 6; year++) {
            seen.append(' ').append(x.holds(year)).append(' ').append(x.earlier(year));
        }
        for (int k = 0; k < 14; k++) {
            seen.append(' ').append(x.changed(k));
        }
        for (int d = 0; d < 4; d++) {
            seen.append(' ').append(x.share(d, 0)).append('/').append(x.share(d, 1));
            for (int k = 0; k < 4; k++) {
                seen.append(' ').append(x.list(d, k));
            }
        }
    }

    private static void lookAtTheRest(WorksBudget x, StringBuilder seen) {
        for (int year = 0; year < 6; year++) {
            seen.append(' ').append(x.backlog(year));
            seen.append(' ').append(x.price(year, 0)).append(' ').append(x.price(year, 1));
        }
        for (int k = 0; k < 12; k++) {
            seen.append(' ').append(x.rank(k));
        }
        for (int k = 0; k < 4; k++) {
            seen.append(' ').append(x.clash(k));
        }
        seen.append(' ').append(x.bound(0)).append(' ').append(x.bound(1));
        seen.append(' ').append(x.compare(0, 1)).append(' ').append(x.compare(1, 2));
    }

    private static void lookByFinding(WorksBudget x, StringBuilder seen) {
        seen.append(' ').append(x.changes(20_000)).append(' ').append(plan(x));
        for (int k = 0; k < 3; k++) {
            seen.append(' ').append(x.policy(k)).append(' ').append(x.worth());
        }
        seen.append(' ').append(x.run(20_000)).append(' ').append(plan(x));
    }

    private static void lookByTelling(WorksBudget x, StringBuilder seen) {
        for (int c = 0; c < 14; c++) {
            seen.append(' ').append(x.must(c));
        }
        for (int a = 0; a < 14; a++) {
            for (int b = a + 1; b < 14; b++) {
                seen.append(bit(x.join(a, b, 1)));
            }
        }
        for (int i = 0; i < 13; i++) {
            seen.append(' ').append(x.thing(0));
        }
        for (int i = 0; i < 15; i++) {
            seen.append(' ').append(x.choice(0, 0, 0, 0));
        }
    }

    // ---- Terms

    private static void yearsUpToTheLast() {
        sentence = "YEARS are 0 .. y - 1";
        for (int y = 1; y <= 6; y++) {
            for (int year : new int[] {LEAST, -1, 0, y - 1, y, GREATEST}) {
                boolean is = year >= 0 && year < y;
                String call = "(" + year + ") of " + y;
                WorksBudget x = new WorksBudget(y);
                x.thing(0);
                due("choice" + call, x.choice(0, year, 0, 1), is ? 0 : BAD);
                due("budget" + call, x.budget(year, 1), is);
                due("price" + call, x.price(year, 0), is ? 0 : BAD);
                due("price, part 1" + call, x.price(year, 1), is ? 0 : BAD);
                due("backlog" + call, x.backlog(year), is ? 1 : BAD);
                x.run(2);
                due("earlier" + call, x.earlier(year), is ? 0 : BAD);
                due("holds" + call, x.holds(year), is);
            }
        }
    }

    private static void thingsUpToTheLast() {
        sentence = "THINGS 0 .. 11";
        for (int n : new int[] {0, 1, 11, 12}) {
            for (int thing : new int[] {LEAST, -1, 0, n - 1, n, 12, 32, GREATEST}) {
                boolean is = thing >= 0 && thing < n;
                WorksBudget x = row(1, n, 0, 1);
                due("choice(" + thing + ") of " + n, x.choice(thing, 0, 1, 1), is ? n : BAD);
                due("district(" + thing + ") of " + n, x.district(thing, 1), is);
            }
        }
    }

    private static void placesFrom0To999() {
        sentence = "a PLACE 0 .. 999";
        int[] none = {LEAST, -1, 1000, 65_536, GREATEST};
        for (int place : none) {
            due("thing(" + place + ")", new WorksBudget(1).thing(place), BAD);
        }
        WorksBudget x = new WorksBudget(1);
        due("thing(999)", x.thing(999), 0);
        due("thing(0)", x.thing(0), 1);
        due("thing(998)", x.thing(998), 2);
        due("thing(1)", x.thing(1), 3);
        int[] byPlace = {1, 3, 2, 0};
        for (int k = 0; k < 4; k++) {
            due("rank(" + k + ")", x.rank(k), byPlace[k]);
        }
    }

    private static void districtsFrom0To3() {
        sentence = "a DISTRICT 0 .. 3";
        for (int d : new int[] {LEAST, -1, 0, 1, 2, 3, 4, 32, GREATEST}) {
            boolean is = d >= 0 && d <= 3;
            WorksBudget x = row(1, 1, 0, 5);
            due("district(0, " + d + ")", x.district(0, d), is);
            x.run(2);
            due("share(" + d + ", 0)", x.share(d, 0), is ? 1 : BAD);
            due("share(" + d + ", 1)", x.share(d, 1), is ? 1 : BAD);
            due("list(" + d + ", 0)", x.list(d, 0), is ? 0 : BAD);
        }
    }

    private static void districtIs0AtFirst() {
        sentence = "a DISTRICT (0 at first)";
        WorksBudget x = row(1, 12, 0, 5);
        x.run(20_000);
        for (int k = 0; k < 12; k++) {
            due("list(0, " + k + ")", x.list(0, k), k);
        }
        for (int d = 1; d < 4; d++) {
            due("list(" + d + ", 0)", x.list(d, 0), BAD);
            due("share(" + d + ", 0)", x.share(d, 0), 0);
        }
    }

    private static void choicesUpToTheLast() {
        sentence = "CHOICES 0 .. 13";
        for (int n : new int[] {0, 1, 13, 14}) {
            for (int c : new int[] {LEAST, -32, -1, 0, n - 1, n, 14, 32, GREATEST}) {
                boolean is = c >= 0 && c < n;
                WorksBudget x = withChoices(n, 0, 1);
                String call = "(" + c + ") of " + n;
                due("old" + call, x.old(c, true), is);
                due("must" + call, x.must(c), is);
                x.run(20_000);
                due("chosen" + call, x.chosen(c), is);
                boolean joins = is && n > 1 && c % 12 != 5;
                due("join" + call + " to 5", x.join(c, 5, 1), joins);
                due("join 5 to" + call, x.join(5, c, 1), false);
            }
        }
    }

    private static void atMostOneChoiceForEachThing() {
        sentence = "A PLAN: at most one for each thing";
        WorksBudget x = oneThing(new int[] {0, 0}, new long[] {5, 7});
        due("run(1): both", x.run(1), 1);
        due("worth()", x.worth(), BAD);
        due("the one worth more", bestPlan(x), 0b10);
        due("policy(0)", x.policy(0), 7);
        x.old(0, true);
        x.old(1, true);
        due("changes(4)", x.changes(4), 1);
        x.thing(1);
        x.choice(1, 0, 0, 5);
        due("one for each of two things", bestPlan(x), 0b110);
    }

    private static void joinsSaveOnlyIfBothAreIn() {
        sentence = "what they save, if both are in a plan";
        long[][] worthAt = {{5, 0}, {6, 0}, {9, 0}, {10, 1}, {15, 1}, {16, 2}, {20, 2}};
        for (long[] pair : worthAt) {
            WorksBudget x = row(1, 2, 10, 1);
            x.join(0, 1, 4);
            x.budget(0, pair[0]);
            due("worth() with a budget of " + pair[0], bestWorth(x), pair[1]);
            due("policy(0) with a budget of " + pair[0], x.policy(0), pair[1]);
        }
    }

    /** Each of the two is too dear alone, whatever choices stand between them. */
    private static void joinsAreOfAnyTwoChoices() {
        sentence = "JOINS are two choices of one year and what they save";
        for (int a = 0; a < 12; a++) {
            for (int b = a + 1; b < 12; b++) {
                WorksBudget x = row(1, 12, 10, 1);
                due("join(" + b + ", " + a + ", 20)", x.join(b, a, 20), true);
                due("the two that cost nothing together", bestPlan(x), 1 << a | 1 << b);
                due("holds(0)", x.holds(0), true);
                due("changes(20000)", x.changes(20_000), 0);
                due("price(0, 0)", x.price(0, 0), 10);
            }
        }
    }

    private static void spentIsNotBelow0() {
        sentence = "but not below 0";
        for (long dear : new long[] {80, 81}) {
            WorksBudget x = row(2, 2, 10, 5);
            x.thing(2);
            x.thing(3);
            x.choice(2, 0, dear, 100);
            x.choice(3, 1, 1, 1000);
            x.join(0, 1, 100);
            due("the two cost less than 0, a third " + dear, bestPlan(x), dear == 80 ? 0b0111 : 0b0011);
            due("holds(0)", x.holds(0), true);
            due("holds(1)", x.holds(1), true);
        }
        WorksBudget y = row(1, 2, 0, 5);
        y.join(0, 1, MILLION);
        due("nothing less a million is at most 0", bestPlan(y), 0b11);
        due("holds(0)", y.holds(0), true);
    }

    private static void spentIsAtMostTheBudget() {
        sentence = "the spent of each year is at most its BUDGET";
        for (int year = 0; year < 6; year++) {
            for (long budget : new long[] {99, 100, 101}) {
                WorksBudget x = new WorksBudget(6);
                x.thing(0);
                x.choice(0, year, 100, 9);
                x.budget(year, budget);
                due("worth() with " + budget + " in year " + year, bestWorth(x), budget < 100 ? 0 : 9);
                due("policy(0)", x.policy(0), budget < 100 ? 0 : 9);
                x.budget((year + 1) % 6, 100);
                due("another year's budget does not help", bestWorth(x), budget < 100 ? 0 : 9);
            }
        }
    }

    private static void budgetIs0AtFirst() {
        sentence = "its BUDGET (0 at first)";
        for (int year = 0; year < 6; year++) {
            WorksBudget x = new WorksBudget(6);
            x.thing(0);
            x.thing(1);
            x.choice(0, year, 1, 9);
            x.choice(1, year, 0, 1);
            due("a cent is too dear in year " + year, bestPlan(x), 0b10);
        }
    }

    private static void allMustsAreIn() {
        sentence = "all MUST choices are in it";
        WorksBudget x = row(1, 3, 10, 1);
        x.budget(0, 20);
        due("no must: the first two", bestPlan(x), 0b011);
        x.must(2);
        due("one must: it and the first", bestPlan(x), 0b101);
        x.must(1);
        due("two musts: just these", bestPlan(x), 0b110);
        x.must(0);
        due("three musts are too many", x.run(8), 2);
        x.budget(0, 30);
        due("all are musts", bestPlan(x), 0b111);
    }

    private static void districtsDifferByAtMostThat() {
        sentence = "the worths of each two districts differ by at most that";
        for (int a = 0; a < 4; a++) {
            for (int b = 0; b < 4; b++) {
                if (a != b) {
                    fairBetween(a, b);
                }
            }
        }
    }

    private static void fairBetween(int a, int b) {
        for (long most : new long[] {2, 3, 4}) {
            WorksBudget x = new WorksBudget(1);
            x.thing(0);
            x.thing(1);
            x.choice(0, 0, 0, 10);
            x.choice(1, 0, 0, 7);
            x.district(0, a);
            x.district(1, b);
            x.fair(most);
            due("10 in " + a + ", 7 in " + b + ", fair(" + most + ")", bestWorth(x), most < 3 ? 0 : 17);
        }
    }

    private static void districtsWithoutThingsDoNotCount() {
        sentence = "districts that have things";
        WorksBudget x = row(1, 1, 0, 10);
        x.fair(0);
        due("one district alone", bestWorth(x), 10);
        x.thing(5);
        due("two things of one district", bestWorth(x), 10);
        x.district(1, 3);
        due("a thing without choices is a thing of its district", bestWorth(x), 0);
        x.fair(9);
        due("fair(9)", bestWorth(x), 0);
        x.fair(10);
        due("fair(10)", bestWorth(x), 10);
        x.fair(0);
        x.district(1, 0);
        due("the district has no things again", bestWorth(x), 10);
        x.thing(6);
        x.district(1, 3);
        x.district(2, 3);
        due("a district of two things", bestWorth(x), 0);
    }

    /** Only one set can hold at a time, as its choices are musts and the others too dear. */
    private static void eachSetHasItsPlaceInOrder() {
        sentence = "PLANS ARE IN ORDER";
        for (int set = 0; set < 16; set++) {
            WorksBudget x = new WorksBudget(1);
            int place = 1;
            for (int c = 0; c < 4; c++) {
                boolean in = (set >> c & 1) == 1;
                x.thing(c);
                x.choice(c, 0, in ? 0 : 1, 1);
                if (in) {
                    x.must(c);
                } else {
                    place += 8 >> c;
                }
            }
            foundJustAt(x, place, set);
        }
    }

    private static void foundJustAt(WorksBudget x, int place, int set) {
        if (place > 1) {
            due("run(" + (place - 1) + ") for " + set, x.run(place - 1), 1);
            due("worth()", x.worth(), BAD);
            due("changes(" + (place - 1) + ") for " + set, x.changes(place - 1), BAD);
        }
        due("run(" + place + ") for " + set, x.run(place), place == 16 ? 0 : 1);
        due("worth()", x.worth(), Integer.bitCount(set));
        due("the plan", plan(x), set);
        due("changes(" + place + ") for " + set, x.changes(place), Integer.bitCount(set));
        due("the plan", plan(x), set);
    }

    private static void betterHasMoreWorth() {
        sentence = "The BETTER of two plans has more worth";
        due("by 1, of later years", bestPlan(oneThing(new int[] {0, 5}, new long[] {6, 7})), 0b10);
        due("by 1, that comes first", bestPlan(oneThing(new int[] {5, 0}, new long[] {7, 6})), 0b01);
        due("1 or nothing", bestPlan(oneThing(new int[] {5}, new long[] {1})), 0b1);
    }

    private static void betterHasTheLesserSumOfYears() {
        sentence = "of those the lesser sum of years";
        due("by 1", bestPlan(oneThing(new int[] {5, 4}, new long[] {7, 7})), 0b10);
        due("by 1, first", bestPlan(oneThing(new int[] {4, 5}, new long[] {7, 7})), 0b01);
        due("0 or nothing", bestPlan(oneThing(new int[] {0}, new long[] {0})), 0b1);
        due("1 or nothing", bestPlan(oneThing(new int[] {1}, new long[] {0})), 0);
        // Two cheap ones together are worth as much as a dear one, but their years count twice.
        for (int year = 0; year < 6; year++) {
            WorksBudget x = new WorksBudget(6);
            long[][] rows = {{5, 4}, {5, 4}, {10, 8}};
            for (int c = 0; c < 3; c++) {
                x.thing(c);
                x.choice(c, year, rows[c][0], rows[c][1]);
            }
            x.budget(year, 10);
            due("two or one of year " + year, bestPlan(x), year == 0 ? 0b011 : 0b100);
        }
    }

    private static void betterComesFirst() {
        sentence = "of those it comes first";
        due("two", bestPlan(oneThing(new int[] {3, 3}, new long[] {7, 7})), 0b01);
        due("three", bestPlan(oneThing(new int[] {4, 3, 3}, new long[] {7, 7, 7})), 0b010);
        WorksBudget x = row(1, 4, 10, 5);
        x.budget(0, 20);
        due("two of four", bestPlan(x), 0b0011);
        WorksBudget y = row(1, 3, 0, 0);
        due("all rather than some", bestPlan(y), 0b111);
    }

    private static void whatIsToldTakesThePlan() {
        sentence = "it is none when anything else is told";
        told("thing(0)", x -> x.thing(0), 4);
        told("choice(3, 2, 5, 5)", x -> x.choice(3, 2, 5, 5), 6);
        told("must(0)", x -> bit(x.must(0)), 1);
        told("budget(0, 650), the same again", x -> bit(x.budget(0, 650)), 1);
        told("budget(2, 1)", x -> bit(x.budget(2, 1)), 1);
        told("join(3, 5, 0)", x -> bit(x.join(3, 5, 0)), 1);
        told("district(3, 2)", x -> bit(x.district(3, 2)), 1);
        told("district(0, 0), the same again", x -> bit(x.district(0, 0)), 1);
        told("fair(46)", x -> bit(x.fair(46)), 1);
        told("fair(45), the same again", x -> bit(x.fair(45)), 1);
        told("fair(-1)", x -> bit(x.fair(-1)), 1);
        noneIsSeenOfAPlanThatWent();
    }

    private static void noneIsSeenOfAPlanThatWent() {
        WorksBudget x = ordinary();
        x.budget(0, 650);
        due("the plan", plan(x), 0);
        due("changed(0)", x.changed(0), BAD);
        due("backlog(0)", x.backlog(0), 70);
        due("share(0, 0)", x.share(0, 0), BAD);
        due("list(0, 0)", x.list(0, 0), BAD);
        due("earlier(1)", x.earlier(1), BAD);
        due("holds(0)", x.holds(0), false);
    }

    private static void oldLeavesThePlan() {
        sentence = "(but old())";
        WorksBudget x = ordinary();
        due("old(0, true)", x.old(0, true), true);
        due("old(1, false)", x.old(1, false), true);
        due("old(1, false), the same again", x.old(1, false), true);
        due("worth()", x.worth(), 105);
        due("the plan", plan(x), 0b001101);
        due("proved()", x.proved(), true);
    }

    private static void whatFoundNoneLeavesNone() {
        sentence = "(none, if that found none)";
        WorksBudget x = ordinary();
        due("run(1)", x.run(1), 1);
        due("worth() after run(1)", x.worth(), BAD);
        x.run(20_000);
        due("changes(1)", x.changes(1), BAD);
        due("worth() after changes(1)", x.worth(), BAD);
        x.run(20_000);
        due("policy(3)", x.policy(3), BAD);
        due("worth() after policy(3)", x.worth(), BAD);
        due("policy(0)", x.policy(0), 105);
        due("the last of them counts", x.changes(20_000), 2);
        due("the last of them counts", plan(x), 0b000110);
        due("the last of them counts", x.run(20_000), 0);
        due("the last of them counts", plan(x), 0b001101);
    }

    private static void questionsLeaveAllAsItWas() {
        sentence = "THE PLAN AT HAND is what the last of run(), changes(), policy() found";
        leaves("chosen(0)", EdgesTest::ordinary, x -> bit(x.chosen(0)), 1);
        leaves("worth()", EdgesTest::ordinary, x -> x.worth(), 105);
        leaves("bound(0)", EdgesTest::ordinary, x -> x.bound(0), 105);
        leaves("bound(1)", EdgesTest::ordinary, x -> x.bound(1), 105);
        leaves("clash(0)", EdgesTest::ordinary, x -> x.clash(0), BAD);
        leaves("proved()", EdgesTest::ordinary, x -> bit(x.proved()), 1);
        leaves("price(1, 0)", EdgesTest::ordinary, x -> x.price(1, 0), 0);
        leaves("price(1, 1)", EdgesTest::ordinary, x -> x.price(1, 1), 0);
        leaves("changed(0)", EdgesTest::ordinary, x -> x.changed(0), 0);
        leaves("backlog(0)", EdgesTest::ordinary, x -> x.backlog(0), 0);
        leaves("rank(0)", EdgesTest::ordinary, x -> x.rank(0), 0);
        leaves("share(0, 0)", EdgesTest::ordinary, x -> x.share(0, 0), 8);
        leaves("compare(0, 2)", EdgesTest::ordinary, x -> x.compare(0, 2), 0);
        leaves("list(0, 0)", EdgesTest::ordinary, x -> x.list(0, 0), 0);
        leaves("earlier(1)", EdgesTest::ordinary, x -> x.earlier(1), 2);
        leaves("holds(0)", EdgesTest::ordinary, x -> bit(x.holds(0)), 1);
    }

    /** The best plan comes late, so that a search which ends too early does not find it. */
    private static WorksBudget lateBest() {
        WorksBudget x = new WorksBudget(1);
        for (int t = 0; t < 4; t++) {
            x.thing(t);
            x.choice(t, 0, 1000, 10 + t);
        }
        x.budget(0, 1000);
        return x;
    }

    private static void questionsLeaveTheNextSearch() {
        sentence = "run(), changes(), policy() find the same, whatever was asked or found before";
        for (int asked = 0; asked < 7; asked++) {
            WorksBudget x = lateBest();
            ask(x, asked);
            due("run(16) after " + asked, x.run(16), 0);
            due("the best plan after " + asked, plan(x), 0b1000);
            ask(x, asked);
            due("changes(16) after " + asked, x.changes(16), asked == 6 ? 1 : 0);
            due("the nearest plan after " + asked, plan(x), asked == 6 ? 0b0010 : 0);
            ask(x, asked);
            due("price(0, 0) after " + asked, x.price(0, 0), 12);
            due("policy(1) after " + asked, x.policy(1), 13);
        }
    }

    /** Asks, or finds, something; the last one makes an old plan that does not hold. */
    private static void ask(WorksBudget x, int which) {
        switch (which) {
            case 0 -> due("clash(0)", x.clash(0), BAD);
            case 1 -> due("price(0, 0)", x.price(0, 0), 12);
            case 2 -> due("price(0, 1)", x.price(0, 1), 12);
            case 3 -> due("changes(16)", x.changes(16), 0);
            case 4 -> due("run(15)", x.run(15), 1);
            case 5 -> due("policy(0)", x.policy(0), 13);
            default -> due("old plan", x.old(0, true) && x.old(1, true), true);
        }
    }

    // ---- Promises 1 to 8: what is told

    private static void yearsBelow1AndAbove6() {
        sentence = "1: y is years, but 1 if that is less, 6 if more";
        int[][] pairs = {{LEAST, 1}, {-1, 1}, {0, 1}, {1, 1}, {2, 2}, {5, 5}, {6, 6}, {7, 6}, {GREATEST, 6}};
        for (int[] pair : pairs) {
            WorksBudget x = new WorksBudget(pair[0]);
            due("backlog of the last year of " + pair[0], x.backlog(pair[1] - 1), 0);
            due("backlog past the last year of " + pair[0], x.backlog(pair[1]), BAD);
        }
    }

    private static void nothingIsToldAtFirst() {
        sentence = "1: Nothing is told";
        WorksBudget x = new WorksBudget(2);
        due("worth()", x.worth(), BAD);
        due("proved()", x.proved(), false);
        due("bound(0)", x.bound(0), 0);
        due("bound(1)", x.bound(1), 0);
        due("price(1, 0)", x.price(1, 0), 0);
        due("price(1, 1)", x.price(1, 1), 0);
        due("clash(0)", x.clash(0), BAD);
        due("rank(0)", x.rank(0), BAD);
        due("compare(0, 1)", x.compare(0, 1), 0);
        due("run(1)", x.run(1), 0);
        due("worth()", x.worth(), 0);
        due("changed(0)", x.changed(0), BAD);
        due("share(0, 0)", x.share(0, 0), 0);
        due("share(0, 1)", x.share(0, 1), 1);
        due("list(0, 0)", x.list(0, 0), BAD);
        due("earlier(1)", x.earlier(1), 0);
        due("holds(1)", x.holds(1), true);
        due("policy(2)", x.policy(2), 0);
        due("changes(1)", x.changes(1), 0);
    }

    private static void noSuchPlace() {
        sentence = "2: BAD: no such place";
        for (int place : new int[] {LEAST, -1, 1000, GREATEST}) {
            refused("thing(" + place + ")", x -> x.thing(place), BAD);
        }
    }

    private static void atMost12Things() {
        sentence = "2: BAD: there are 12";
        WorksBudget x = new WorksBudget(1);
        for (int t = 0; t < 12; t++) {
            due("thing " + t, x.thing(999), t);
        }
        due("a 13th thing", x.thing(0), BAD);
        due("choice(12, 0, 0, 0)", x.choice(12, 0, 0, 0), BAD);
        due("rank(11)", x.rank(11), 11);
        due("rank(12)", x.rank(12), BAD);
        leaves("a 13th thing", EdgesTest::full, y -> y.thing(0), BAD);
    }

    private static void noSuchThingOrYear() {
        sentence = "3: BAD: no such thing, year";
        for (int none : new int[] {LEAST, -1, 12, GREATEST}) {
            refused("choice(" + none + ", 0, 1, 1)", x -> x.choice(none, 0, 1, 1), BAD);
            refused("choice(0, " + none + ", 1, 1)", x -> x.choice(0, none, 1, 1), BAD);
        }
        leaves("choice(4, 0, 1, 1)", EdgesTest::ordinary, x -> x.choice(4, 0, 1, 1), BAD);
        leaves("choice(0, 3, 1, 1)", EdgesTest::ordinary, x -> x.choice(0, 3, 1, 1), BAD);
        told("choice(3, 2, 1, 1)", x -> x.choice(3, 2, 1, 1), 6);
    }

    private static void centsFrom0ToAMillion() {
        sentence = "3: BAD: cents are not 0 .. 1,000,000";
        for (long cents : new long[] {Long.MIN_VALUE, -1, MILLION + 1, 1L << 32, Long.MAX_VALUE}) {
            refused("choice(0, 0, " + cents + ", 1)", x -> x.choice(0, 0, cents, 1), BAD);
        }
        told("choice(0, 0, 0, 1)", x -> x.choice(0, 0, 0, 1), 6);
        told("choice(0, 0, 1000000, 1)", x -> x.choice(0, 0, MILLION, 1), 6);
        WorksBudget x = row(1, 1, MILLION, 1);
        x.budget(0, MILLION - 1);
        due("a million is more than a cent less", bestWorth(x), 0);
        x.budget(0, MILLION);
        due("a million is a million", bestWorth(x), 1);
    }

    private static void worthFrom0ToAMillion() {
        sentence = "3: BAD: worth is not 0 .. 1,000,000";
        for (long worth : new long[] {Long.MIN_VALUE, -1, MILLION + 1, 1L << 32, Long.MAX_VALUE}) {
            refused("choice(0, 0, 1, " + worth + ")", x -> x.choice(0, 0, 1, worth), BAD);
        }
        told("choice(0, 0, 1, 0)", x -> x.choice(0, 0, 1, 0), 6);
        told("choice(0, 0, 1, 1000000)", x -> x.choice(0, 0, 1, MILLION), 6);
        due("worth 0", bestWorth(row(1, 1, 0, 0)), 0);
        due("worth 1000000", bestWorth(row(1, 1, 0, MILLION)), MILLION);
    }

    private static void atMost14Choices() {
        sentence = "3: BAD: there are 14";
        WorksBudget x = withChoices(14, 0, 1);
        due("a 15th choice", x.choice(0, 0, 0, 1), BAD);
        due("a 15th choice of another thing", x.choice(11, 1, 0, 1), BAD);
        due("must(13)", x.must(13), true);
        due("must(14)", x.must(14), false);
        leaves("a 15th choice", EdgesTest::full, y -> y.choice(0, 0, 0, 1), BAD);
    }

    private static void mustOfNoneSuchOrTwice() {
        sentence = "4: False: none such, or it was";
        for (int c : new int[] {LEAST, -1, 14, 32, GREATEST}) {
            refused("must(" + c + ")", x -> bit(x.must(c)), 0);
        }
        leaves("must(6)", EdgesTest::ordinary, x -> bit(x.must(6)), 0);
        leaves("must(2), that is one", EdgesTest::ordinary, x -> bit(x.must(2)), 0);
        leaves("must(3), that is one", EdgesTest::full, x -> bit(x.must(3)), 0);
        told("must(5)", x -> bit(x.must(5)), 1);
        told("must(0)", x -> bit(x.must(0)), 1);
    }

    private static void budgetFrom0To100Million() {
        sentence = "5: A budget, 0 .. 100,000,000";
        for (long cents : new long[] {Long.MIN_VALUE, -1, 100 * MILLION + 1, 1L << 32, Long.MAX_VALUE}) {
            refused("budget(0, " + cents + ")", x -> bit(x.budget(0, cents)), 0);
        }
        told("budget(0, 0)", x -> bit(x.budget(0, 0)), 1);
        told("budget(0, 100000000)", x -> bit(x.budget(0, 100 * MILLION)), 1);
        WorksBudget x = row(2, 1, MILLION, 9);
        due("budget(0, 100000000)", x.budget(0, 100 * MILLION), true);
        due("the greatest budget pays", bestWorth(x), 9);
        due("price 9 / 1000000 times all", x.bound(1), 9);
        due("budget(0, 0)", x.budget(0, 0), true);
        due("the least budget pays nothing", bestWorth(x), 0);
    }

    private static void budgetOfNoSuchYear() {
        sentence = "5: False: none such";
        for (int year : new int[] {LEAST, -1, 6, GREATEST}) {
            refused("budget(" + year + ", 5)", x -> bit(x.budget(year, 5)), 0);
        }
        leaves("budget(3, 5)", EdgesTest::ordinary, x -> bit(x.budget(3, 5)), 0);
        told("budget(2, 5)", x -> bit(x.budget(2, 5)), 1);
    }

    private static void savesFrom0ToAMillion() {
        sentence = "6: A join, saving 0 .. 1,000,000";
        for (long saves : new long[] {Long.MIN_VALUE, -1, MILLION + 1, 1L << 32, Long.MAX_VALUE}) {
            refused("join(3, 5, " + saves + ")", x -> bit(x.join(3, 5, saves)), 0);
        }
        told("join(3, 5, 0)", x -> bit(x.join(3, 5, 0)), 1);
        told("join(3, 5, 1000000)", x -> bit(x.join(3, 5, MILLION)), 1);
        for (long saves : new long[] {0, MILLION}) {
            WorksBudget x = row(1, 2, 500_000, 1);
            x.budget(0, 500_000);
            x.join(0, 1, saves);
            due("two by a join of " + saves, bestWorth(x), saves == 0 ? 1 : 2);
            x.budget(0, 0);
            due("without a budget by a join of " + saves, bestWorth(x), saves == 0 ? 0 : 2);
        }
    }

    private static void joinOfNoneSuch() {
        sentence = "6: False: none such";
        for (int c : new int[] {LEAST, -1, 14, 32, GREATEST}) {
            refused("join(0, " + c + ", 1)", x -> bit(x.join(0, c, 1)), 0);
            refused("join(" + c + ", 0, 1)", x -> bit(x.join(c, 0, 1)), 0);
        }
        leaves("join(3, 6, 1)", EdgesTest::ordinary, x -> bit(x.join(3, 6, 1)), 0);
        leaves("join(6, 3, 1)", EdgesTest::ordinary, x -> bit(x.join(6, 3, 1)), 0);
        told("join(3, 5, 1)", x -> bit(x.join(3, 5, 1)), 1);
        told("join(5, 3, 1)", x -> bit(x.join(5, 3, 1)), 1);
    }

    private static void joinOfTheSame() {
        sentence = "6: False: the same";
        for (int c = 0; c < 6; c++) {
            int same = c;
            leaves("join(" + c + ", " + c + ", 1)", EdgesTest::ordinary, x -> bit(x.join(same, same, 1)), 0);
        }
    }

    private static void joinNotOfOneYear() {
        sentence = "6: False: not of one year";
        leaves("join(0, 3, 1)", EdgesTest::ordinary, x -> bit(x.join(0, 3, 1)), 0);
        leaves("join(3, 0, 1)", EdgesTest::ordinary, x -> bit(x.join(3, 0, 1)), 0);
        leaves("join(4, 5, 1)", EdgesTest::ordinary, x -> bit(x.join(4, 5, 1)), 0);
        leaves("join(0, 4, 1)", EdgesTest::ordinary, x -> bit(x.join(0, 4, 1)), 0);
    }

    private static void joinOfOneThing() {
        sentence = "6: False: of one thing";
        Supplier<WorksBudget> twins = () -> {
            WorksBudget x = row(1, 2, 10, 1);
            x.choice(0, 0, 5, 1);
            x.budget(0, 12);
            x.run(8);
            return x;
        };
        leaves("join(0, 2, 1)", twins, x -> bit(x.join(0, 2, 1)), 0);
        leaves("join(2, 0, 1)", twins, x -> bit(x.join(2, 0, 1)), 0);
        due("join(1, 2, 1)", twins.get().join(1, 2, 1), true);
    }

    private static void joinThatIsThere() {
        sentence = "6: False: there is one of these two";
        leaves("join(0, 2, 200)", EdgesTest::ordinary, x -> bit(x.join(0, 2, 200)), 0);
        leaves("join(0, 2, 999)", EdgesTest::ordinary, x -> bit(x.join(0, 2, 999)), 0);
        leaves("join(2, 0, 999)", EdgesTest::ordinary, x -> bit(x.join(2, 0, 999)), 0);
        WorksBudget x = row(1, 3, 10, 1);
        due("join(0, 1, 0)", x.join(0, 1, 0), true);
        due("one that saves nothing is one", x.join(0, 1, 5), false);
        due("one that saves nothing is one, the other way", x.join(1, 0, 5), false);
        due("join(1, 2, 0)", x.join(1, 2, 0), true);
        due("join(2, 0, 0)", x.join(2, 0, 0), true);
    }

    private static void atMost20Joins() {
        sentence = "6: False: 20 are";
        WorksBudget x = row(1, 7, 10, 1);
        joinAll(x, 7, 19, 1);
        due("a 20th", x.join(4, 6, 1), true);
        due("a 21st", x.join(5, 6, 1), false);
        // All seven cost 70 less 20.
        x.budget(0, 49);
        due("six", bestWorth(x), 6);
        x.budget(0, 50);
        due("all seven", bestWorth(x), 7);
        leaves("a 21st", EdgesTest::full, y -> bit(y.join(5, 6, 1)), 0);
    }

    private static void districtOfNoneSuch() {
        sentence = "7: False: none such";
        for (int none : new int[] {LEAST, -1, 12, GREATEST}) {
            refused("district(" + none + ", 1)", x -> bit(x.district(none, 1)), 0);
        }
        for (int none : new int[] {LEAST, -1, 4, 32, GREATEST}) {
            refused("district(0, " + none + ")", x -> bit(x.district(0, none)), 0);
        }
        leaves("district(4, 1)", EdgesTest::ordinary, x -> bit(x.district(4, 1)), 0);
        told("district(3, 0)", x -> bit(x.district(3, 0)), 1);
        told("district(0, 3)", x -> bit(x.district(0, 3)), 1);
    }

    private static void fairUpTo10Million() {
        sentence = "8: Fairness, 0 .. 10,000,000. False: more";
        for (long most : new long[] {10 * MILLION + 1, 1L << 32, Long.MAX_VALUE}) {
            refused("fair(" + most + ")", x -> bit(x.fair(most)), 0);
        }
        told("fair(0)", x -> bit(x.fair(0)), 1);
        told("fair(10000000)", x -> bit(x.fair(10 * MILLION)), 1);
        // 11 things of a million each are one too many for the greatest fairness.
        WorksBudget x = row(1, 11, 0, MILLION);
        x.thing(0);
        x.district(11, 1);
        due("fair(10000000)", x.fair(10 * MILLION), true);
        due("ten of eleven", bestWorth(x), 10 * MILLION);
        due("fair(9999999)", x.fair(10 * MILLION - 1), true);
        due("nine of eleven", bestWorth(x), 9 * MILLION);
        due("fair(10000001)", x.fair(10 * MILLION + 1), false);
        due("fairness stays", bestWorth(x), 9 * MILLION);
    }

    private static void fairBelow0IsNone() {
        sentence = "8: or none (below 0, as at first)";
        for (long none : new long[] {-1, -2, -(1L << 32), Long.MIN_VALUE}) {
            WorksBudget x = row(1, 2, 0, 5);
            x.choice(1, 0, 0, 6);
            x.district(1, 1);
            due("none at first", bestWorth(x), 11);
            due("fair(0)", x.fair(0), true);
            due("fair(0): 5 and 5", bestWorth(x), 10);
            due("fair(" + none + ")", x.fair(none), true);
            due("fair(" + none + ") is none", bestWorth(x), 11);
        }
    }

    // ---- Promises 9 to 11, 14 and 16 to 18: what is searched for

    private static final long[] OTHER_NODES = {Long.MIN_VALUE, -1, 0, 20_001, (1L << 32) + 1, Long.MAX_VALUE};

    private static WorksBudget unproved() {
        WorksBudget x = ordinary();
        x.run(20);
        return x;
    }

    private static WorksBudget withAPolicy() {
        WorksBudget x = ordinary();
        x.policy(1);
        return x;
    }

    private static WorksBudget withoutAPlan() {
        WorksBudget x = ordinary();
        x.must(0);
        x.must(1);
        x.run(20_000);
        return x;
    }

    private static void runOfOtherNodes() {
        sentence = "9: nodes (1 .. 20,000). BAD, changing nothing: other nodes";
        for (long nodes : OTHER_NODES) {
            String call = "run(" + nodes + ")";
            refused(call, x -> x.run(nodes), BAD);
            leaves(call + ", not proved", EdgesTest::unproved, x -> x.run(nodes), BAD);
            leaves(call + " after a policy", EdgesTest::withAPolicy, x -> x.run(nodes), BAD);
            leaves(call + " without a plan", EdgesTest::withoutAPlan, x -> x.run(nodes), BAD);
        }
        due("run(1)", empty().run(1), 0);
        due("run(20000)", empty().run(20_000), 0);
        due("run(1)", full().run(1), 1);
        due("run(20000)", full().run(20_000), 0);
    }

    private static void runLooksAtTheFirstNodes() {
        sentence = "9: Looks at the first nodes of all sets in order: the best plan of those";
        WorksBudget x = row(1, 3, 0, 1);
        for (int nodes = 1; nodes <= 8; nodes++) {
            due("run(" + nodes + ")", x.run(nodes), nodes < 8 ? 1 : 0);
            due("the first set holds, and none is worth more", x.worth(), 3);
        }
        // Only the later sets are cheap enough: {0}, {1}, {2}, {} at the places 4, 6, 7, 8.
        WorksBudget y = new WorksBudget(1);
        long[] worth = {4, 5, 6};
        for (int t = 0; t < 3; t++) {
            y.thing(t);
            y.choice(t, 0, 10, worth[t]);
        }
        y.budget(0, 10);
        long[] found = {BAD, BAD, BAD, 4, 4, 5, 6, 6};
        for (int nodes = 1; nodes <= 8; nodes++) {
            y.run(nodes);
            due("worth() after run(" + nodes + ")", y.worth(), found[nodes - 1]);
        }
    }

    private static void runTellsWhetherAllWereLookedAt() {
        sentence = "9: 0: all were looked at, and there is one; 1: not all";
        for (int n = 0; n <= 14; n++) {
            long all = 1L << n;
            WorksBudget x = withChoices(n, 1, 1);
            due("run(" + all + ") of " + n, x.run(all), 0);
            due("the empty plan is the last", x.worth(), 0);
            if (n > 0) {
                due("run(" + (all - 1) + ") of " + n, x.run(all - 1), 1);
                due("the empty plan was not seen", x.worth(), BAD);
            }
            due("run(" + (all + 1) + ") of " + n, x.run(all + 1), 0);
        }
    }

    private static void runTellsThatNoneHolds() {
        sentence = "9: 2: all were, and none holds";
        for (int n = 1; n <= 14; n++) {
            long all = 1L << n;
            WorksBudget x = withChoices(n, 1, 1);
            x.must(n - 1);
            due("run(" + all + ") of " + n, x.run(all), 2);
            due("worth()", x.worth(), BAD);
            due("run(" + (all - 1) + ") of " + n, x.run(all - 1), 1);
            due("run(20000) of " + n, x.run(20_000), 2);
        }
    }

    private static void chosenOfNoneSuch() {
        sentence = "10: False also: none such";
        for (int c : new int[] {LEAST, -32, -1, 14, 32, 64, GREATEST}) {
            due("chosen(" + c + ") of nothing", empty().chosen(c), false);
            due("chosen(" + c + ") of an ordinary object", ordinary().chosen(c), false);
            due("chosen(" + c + ") of a full object", full().chosen(c), false);
        }
        WorksBudget x = row(1, 3, 0, 1);
        due("chosen(0) without a plan", x.chosen(0), false);
        x.run(8);
        due("chosen(0)", x.chosen(0), true);
        due("chosen(2)", x.chosen(2), true);
        due("chosen(3)", x.chosen(3), false);
        due("chosen(-1)", x.chosen(-1), false);
    }

    private static void worthWithoutAPlan() {
        sentence = "11: BAD: none";
        WorksBudget x = row(1, 2, 1, 5);
        due("at first", x.worth(), BAD);
        x.run(3);
        due("none found", x.worth(), BAD);
        x.run(4);
        due("the empty plan", x.worth(), 0);
        x.must(0);
        due("something was told", x.worth(), BAD);
        x.run(4);
        due("none holds", x.worth(), BAD);
    }

    private static void provedByARunOverAll() {
        sentence = "14: Whether the last run() that was not BAD told 0 or 2";
        WorksBudget x = row(1, 2, 1, 5);
        due("no run", x.proved(), false);
        due("run(4)", x.run(4), 0);
        due("after 0", x.proved(), true);
        due("run(3)", x.run(3), 1);
        due("after 1", x.proved(), false);
        due("run(0)", x.run(0), BAD);
        due("after 1 and BAD", x.proved(), false);
        due("run(4)", x.run(4), 0);
        due("run(20001)", x.run(20_001), BAD);
        due("after 0 and BAD", x.proved(), true);
        x.must(1);
        due("run(4)", x.run(4), 2);
        due("after 2", x.proved(), true);
        due("run(3)", x.run(3), 1);
        due("after 2 and 1", x.proved(), false);
        WorksBudget y = empty();
        due("run(0)", y.run(0), BAD);
        due("after BAD alone", y.proved(), false);
    }

    private static void provedUntilSomethingIsTold() {
        sentence = "14: and nothing was told since (also not the same again)";
        WorksBudget x = ordinary();
        due("budget(1, 700), the same again", x.budget(1, 700), true);
        due("proved()", x.proved(), false);
        x.run(20_000);
        due("fair(45), the same again", x.fair(45), true);
        due("proved()", x.proved(), false);
        x.run(20_000);
        due("district(2, 3), the same again", x.district(2, 3), true);
        due("proved()", x.proved(), false);
        WorksBudget y = withoutAPlan();
        due("proved()", y.proved(), true);
        due("budget(0, 650), the same again", y.budget(0, 650), true);
        due("proved()", y.proved(), false);
    }

    private static void provedWhateverElseIsAsked() {
        sentence = "14: policy(), changes(), old() do not matter";
        WorksBudget x = ordinary();
        WorksBudget y = unproved();
        x.policy(0);
        y.policy(0);
        due("policy(0)", x.proved(), true);
        due("policy(0)", y.proved(), false);
        x.policy(3);
        due("policy(3)", x.proved(), true);
        x.changes(20_000);
        y.changes(20_000);
        due("changes(20000)", x.proved(), true);
        due("changes(20000)", y.proved(), false);
        x.changes(1);
        due("changes(1)", x.proved(), true);
        x.changes(0);
        due("changes(0)", x.proved(), true);
        x.old(0, true);
        due("old(0, true)", x.proved(), true);
    }

    private static void oldOfNoneSuch() {
        sentence = "16: False: none such";
        for (int c : new int[] {LEAST, -32, -1, 14, 32, GREATEST}) {
            refused("old(" + c + ", true)", x -> bit(x.old(c, true)), 0);
            refused("old(" + c + ", false)", x -> bit(x.old(c, false)), 0);
        }
        leaves("old(6, true)", EdgesTest::ordinary, x -> bit(x.old(6, true)), 0);
        leaves("old(0, true)", EdgesTest::empty, x -> bit(x.old(0, true)), 0);
        due("old(5, true)", ordinary().old(5, true), true);
        due("old(13, false)", full().old(13, false), true);
        leaves("old(1, true), that is in it", EdgesTest::ordinary, x -> bit(x.old(1, true)), 1);
        leaves("old(0, false), that is not in it", EdgesTest::ordinary, x -> bit(x.old(0, false)), 1);
    }

    private static void oldIsInOrNot() {
        sentence = "16: A choice is in the OLD plan, or not";
        WorksBudget x = withChoices(14, 1, 1);
        x.run(16_384);
        for (int c = 0; c < 14; c++) {
            due("old(" + c + ", true)", x.old(c, true), true);
            due("it differs from the empty plan", x.changed(0), c);
            due("that alone does", x.changed(1), BAD);
            due("old(" + c + ", false)", x.old(c, false), true);
            due("it does not differ any more", x.changed(0), BAD);
        }
        x.old(13, true);
        x.budget(0, 1);
        due("it stays when something is told", x.changes(16_384), 0);
        due("it stays when something is told", plan(x), 1 << 13);
    }

    private static void changesOfOtherNodes() {
        sentence = "17: BAD: other nodes (nothing changes)";
        for (long nodes : OTHER_NODES) {
            String call = "changes(" + nodes + ")";
            refused(call, x -> x.changes(nodes), BAD);
            leaves(call + " after a policy", EdgesTest::withAPolicy, x -> x.changes(nodes), BAD);
            leaves(call + " without a plan", EdgesTest::withoutAPlan, x -> x.changes(nodes), BAD);
        }
        due("changes(1)", empty().changes(1), 0);
        due("changes(20000)", empty().changes(20_000), 0);
        due("changes(20000)", ordinary().changes(20_000), 2);
    }

    private static void changesLooksAtTheFirstNodes() {
        sentence = "17: Looks at the first nodes of all sets in order";
        WorksBudget x = row(1, 3, 0, 1);
        int[] fewest = {3, 2, 2, 1, 1, 1, 1, 0};
        for (int nodes = 1; nodes <= 8; nodes++) {
            due("changes(" + nodes + ")", x.changes(nodes), fewest[nodes - 1]);
        }
        WorksBudget y = withChoices(14, 1, 1);
        due("changes(16383)", y.changes(16_383), BAD);
        due("changes(16384)", y.changes(16_384), 0);
    }

    private static void changesFindsNone() {
        sentence = "17: BAD: none holds (no plan is at hand then)";
        WorksBudget x = ordinary();
        due("changes(1)", x.changes(1), BAD);
        due("worth()", x.worth(), BAD);
        due("changed(0)", x.changed(0), BAD);
        due("holds(0)", x.holds(0), false);
        x.must(0);
        x.must(1);
        due("policy(0)", x.policy(0), BAD);
        due("changes(20000)", x.changes(20_000), BAD);
        due("worth()", x.worth(), BAD);
    }

    private static void changesAreFewestFirst() {
        sentence = "17: the fewest CHANGED choices, of those the better one";
        WorksBudget x = row(1, 1, 0, MILLION);
        due("none rather than a million", x.changes(2), 0);
        due("none rather than a million", plan(x), 0);
        WorksBudget z = row(1, 1, 0, MILLION);
        z.thing(1);
        z.choice(1, 0, 0, 1);
        z.old(1, true);
        due("the old plan rather than a million more", z.changes(4), 0);
        due("the old plan rather than a million more", plan(z), 0b10);
        z.must(0);
        due("a must and the old plan", z.changes(4), 1);
        due("a must and the old plan", plan(z), 0b11);
        // All are of one thing and in the old plan, so all but one go.
        int[][] yearsOf = {{0, 5}, {5, 4}, {4, 5}, {3, 3}};
        long[][] worths = {{6, 7}, {7, 7}, {7, 7}, {7, 7}};
        int[] stays = {0b10, 0b10, 0b01, 0b01};
        for (int i = 0; i < stays.length; i++) {
            WorksBudget y = oneThing(yearsOf[i], worths[i]);
            y.old(0, true);
            y.old(1, true);
            due("changes(4) of pair " + i, y.changes(4), 1);
            due("what stays of pair " + i, plan(y), stays[i]);
        }
    }

    private static void changesOfNoneAndOfAll() {
        sentence = "17: how many";
        WorksBudget x = withChoices(14, 1, 1);
        due("none of none", x.changes(20_000), 0);
        for (int c = 0; c < 14; c++) {
            x.old(c, true);
        }
        due("all 14 go", x.changes(20_000), 14);
        due("changed(0)", x.changed(0), 0);
        due("changed(13)", x.changed(13), 13);
        due("changed(14)", x.changed(14), BAD);
        x.budget(0, 12);
        due("12 stay", x.changes(20_000), 2);
        due("the lesser ones stay", plan(x), 0xFFF);
        due("changed(0)", x.changed(0), 12);
        due("changed(1)", x.changed(1), 13);
        due("changed(2)", x.changed(2), BAD);
    }

    private static void changedOfNoneSuch() {
        sentence = "18: BAD: none such";
        WorksBudget x = ordinary();
        // The plan is 0, 2, 3, the old one 1, 4.
        int[] differ = {0, 1, 2, 3, 4};
        for (int k = 0; k < 5; k++) {
            due("changed(" + k + ")", x.changed(k), differ[k]);
        }
        for (int k : new int[] {LEAST, -1, 5, 14, 32, GREATEST}) {
            leaves("changed(" + k + ")", EdgesTest::ordinary, y -> y.changed(k), BAD);
        }
        x.old(0, true);
        due("old() counts at once", x.changed(0), 1);
        due("old() counts at once", x.changed(3), 4);
        due("old() counts at once", x.changed(4), BAD);
        due("without a plan", withoutAPlan().changed(0), BAD);
        WorksBudget y = row(1, 1, 0, 5);
        y.old(0, true);
        y.run(2);
        due("they do not differ", y.changed(0), BAD);
    }

    // ---- Promises 12, 13, 15, 19 to 21 and 24 to 26: what is asked

    private static void boundOfAnotherPart() {
        sentence = "12: BAD: another part";
        for (int part : new int[] {LEAST, -1, 2, GREATEST}) {
            refused("bound(" + part + ")", x -> x.bound(part), BAD);
        }
        due("bound(0)", ordinary().bound(0), 105);
        due("bound(1)", ordinary().bound(1), 105);
    }

    private static void boundOfThingsWithoutChoices() {
        sentence = "12: the sum over all things of the most worth of a choice";
        WorksBudget x = empty();
        due("no things", x.bound(0), 0);
        due("no things", x.bound(1), 0);
        x.thing(0);
        x.thing(1);
        due("no choices", x.bound(0), 0);
        due("no choices", x.bound(1), 0);
        x.choice(1, 0, 5, 0);
        due("worth nothing", x.bound(0), 0);
        x.choice(1, 2, 5, 1);
        due("worth 1", x.bound(0), 1);
        due("without budgets", x.bound(1), 0);
    }

    private static void boundHasPrice0() {
        sentence = "12: for a price (0 by 1, ..)";
        WorksBudget x = row(1, 2, 0, 7);
        due("no choice with a cost", x.bound(1), 14);
        x.budget(0, 100 * MILLION);
        due("the budgets do not matter then", x.bound(1), 14);
        x.choice(0, 0, 1, 8);
        due("a greater price is dearer", x.bound(1), 15);
        WorksBudget y = row(1, 1, 10, 7);
        y.budget(0, 9);
        due("by 7 / 10: 6.3", y.bound(1), 6);
        y.budget(0, 10);
        due("both: 7", y.bound(1), 7);
        y.budget(0, 12);
        due("by 0: 7, by 7 / 10: 8.4", y.bound(1), 7);
    }

    private static void boundTakesNoPriceOfCost0() {
        sentence = "12: each choice with a cost";
        WorksBudget x = row(1, 1, 10, 5);
        x.thing(1);
        x.choice(1, 0, 0, 9);
        due("the free one has its worth at any price", x.bound(1), 9);
        x.choice(1, 0, 1, 0);
        due("a cent for nothing: price 0", x.bound(1), 9);
        x.choice(1, 0, 1, 1000);
        // Price 1000 / 1: nothing is left of 10 for 5, nor of the last; 9 of the free one is.
        due("a cent for 1000: its price", x.bound(1), 9);
    }

    private static void boundByCostsBelow0() {
        sentence = "12: cost less all its joins save, which may be below 0";
        WorksBudget x = row(1, 3, 10, 10);
        x.join(0, 1, 10);
        // Price 1: the first two gain 10 each, the third nothing. Price 0: 30.
        due("they cost 0", x.bound(1), 20);
        x.join(0, 2, 1);
        // Price 1: 0 costs -1 and gains 11, 1 gains 10, 2 costs 9 and gains 1.
        due("one costs -1", x.bound(1), 22);
        x.join(1, 2, 5);
        // Price 1: 11, 15 and 6 are 32; price 0: 30.
        due("one costs -1, one -5", x.bound(1), 30);
        WorksBudget y = row(1, 2, 10, 10);
        y.thing(2);
        y.choice(2, 0, 10, 200);
        y.join(0, 1, 11);
        // Price 20: 10 + 20 by each of two; price 1: 11 + 11 + 190.
        due("the least of them is not the greatest price's by chance", y.bound(1), 60);
    }

    private static void boundIsCutOff() {
        sentence = "12: the least of these sums, cut off";
        long[][] budgetAndBound = {{0, 0}, {1, 0}, {2, 0}, {3, 1}, {5, 1}, {6, 2}, {8, 2}, {9, 3}, {10, 3}};
        for (long[] pair : budgetAndBound) {
            WorksBudget x = row(2, 1, 9, 3);
            x.budget(1, pair[0]);
            due("a third of " + pair[0], x.bound(1), pair[1]);
        }
        WorksBudget y = row(1, 1, MILLION, MILLION - 1);
        y.budget(0, MILLION - 1);
        due("a millionth part above 999998", y.bound(1), MILLION - 2);
    }

    private static void clashWhileSomePlanHolds() {
        sentence = "13: BAD: some plan holds";
        WorksBudget x = row(1, 2, 10, 1);
        due("no musts", x.clash(0), BAD);
        x.must(0);
        x.must(1);
        x.budget(0, 20);
        due("just enough", x.clash(0), BAD);
        x.budget(0, 19);
        due("a cent less", x.clash(0), 0);
        due("a cent less", x.clash(1), 1);
        x.budget(0, 9);
        due("each alone is too dear: the last one stays", x.clash(0), 1);
        due("each alone is too dear", x.clash(1), BAD);
        due("an empty object", empty().clash(0), BAD);
    }

    private static void clashOfNoneSuch() {
        sentence = "13: BAD: there is none such";
        WorksBudget x = withoutAPlan();
        due("clash(0)", x.clash(0), 0);
        due("clash(1)", x.clash(1), 1);
        for (int k : new int[] {LEAST, -1, 2, 14, 32, GREATEST}) {
            leaves("clash(" + k + ")", EdgesTest::withoutAPlan, y -> y.clash(k), BAD);
        }
        // All twelve are wanted, as they cost just a cent more than there is.
        WorksBudget y = row(1, 12, 1, 1);
        for (int c = 0; c < 12; c++) {
            y.must(c);
        }
        y.budget(0, 11);
        due("clash(0) of 12", y.clash(0), 0);
        due("clash(11) of 12", y.clash(11), 11);
        due("clash(12) of 12", y.clash(12), BAD);
        y.budget(0, 12);
        due("clash(0)", y.clash(0), BAD);
        for (int c = 0; c < 14; c++) {
            WorksBudget z = withChoices(14, 1, 1);
            z.must(c);
            due("a must too dear alone, of 14: clash(0)", z.clash(0), c);
            due("clash(1)", z.clash(1), BAD);
        }
    }

    private static void clashKeepsWhatIsWanted() {
        sentence = "13: one by one, each that is not wanted goes";
        WorksBudget x = row(1, 4, 10, 1);
        for (int c = 3; c >= 0; c--) {
            x.must(c);
        }
        x.budget(0, 25);
        due("the first goes, then three are too dear", x.clash(0), 1);
        due("clash(1)", x.clash(1), 2);
        due("clash(2)", x.clash(2), 3);
        due("clash(3)", x.clash(3), BAD);
        x.choice(3, 0, 0, 1);
        x.must(4);
        due("two of one thing are enough", x.clash(0), 3);
        due("clash(1)", x.clash(1), 4);
        due("clash(2)", x.clash(2), BAD);
    }

    private static void priceOfNoneSuch() {
        sentence = "15: BAD: none such";
        for (int none : new int[] {LEAST, -1, 6, GREATEST}) {
            refused("price(" + none + ", 0)", x -> x.price(none, 0), BAD);
            refused("price(" + none + ", 1)", x -> x.price(none, 1), BAD);
        }
        for (int none : new int[] {LEAST, -1, 2, GREATEST}) {
            refused("price(0, " + none + ")", x -> x.price(0, none), BAD);
        }
        leaves("price(3, 0)", EdgesTest::ordinary, x -> x.price(3, 0), BAD);
        leaves("price(2, 0)", EdgesTest::ordinary, x -> x.price(2, 0), 0);
        due("both: none such", empty().price(3, 2), BAD);
    }

    private static void priceOf1000CentsMore() {
        sentence = "15: With 1,000 cents more in a year";
        for (int year = 0; year < 6; year++) {
            for (long cost : new long[] {1499, 1500, 1501}) {
                WorksBudget x = new WorksBudget(6);
                x.thing(0);
                x.choice(0, year, cost, 30);
                x.budget(year, 500);
                due("price(" + year + ", 0) of " + cost, x.price(year, 0), cost > 1500 ? 0 : 30);
                due("in another year", x.price((year + 1) % 6, 0), 0);
                long more = Math.min(30, 1500 * 30 / cost) - 500 * 30 / cost;
                due("price(" + year + ", 1) of " + cost, x.price(year, 1), more);
                due("in another year, part 1", x.price((year + 1) % 6, 1), more);
                due("the budget stays", bestWorth(x), 0);
            }
        }
    }

    private static void priceWithoutAPlanThatHolds() {
        sentence = "15: BAD: part 0: no plan holds now";
        WorksBudget x = row(1, 1, 1000, 40);
        due("some plan holds", x.price(0, 0), 40);
        x.must(0);
        due("none holds now, though one would", x.price(0, 0), BAD);
        due("part 1 all the same", x.price(0, 1), 40);
        x.budget(0, 1000);
        due("one holds", x.price(0, 0), 0);
        x.budget(0, 999);
        due("none holds", x.price(0, 0), BAD);
    }

    private static void priceWhenOnlyTheEmptyPlanHolds() {
        sentence = "15: how much more the best plan is worth";
        WorksBudget x = withChoices(14, 1001, 9);
        due("1,000 cents bring none of 14", x.price(0, 0), 0);
        due("nor in the other year", x.price(1, 0), 0);
        x.budget(0, 1);
        due("a cent more does bring one", x.price(0, 0), 9);
        due("but not in the other year", x.price(1, 0), 0);
    }

    private static void priceBeyondTheGreatestBudget() {
        sentence = "15: 1,000 cents more than the greatest budget";
        WorksBudget x = row(6, 12, MILLION, MILLION);
        for (int year = 0; year < 6; year++) {
            x.budget(year, 100 * MILLION);
        }
        for (int year = 0; year < 6; year++) {
            due("price(" + year + ", 0)", x.price(year, 0), 0);
            due("price(" + year + ", 1)", x.price(year, 1), 0);
        }
    }

    private static void backlogOfNoSuchYear() {
        sentence = "19: BAD: no such year";
        for (int year : new int[] {LEAST, -1, 6, GREATEST}) {
            refused("backlog(" + year + ")", x -> x.backlog(year), BAD);
        }
        leaves("backlog(3)", EdgesTest::ordinary, x -> x.backlog(3), BAD);
        due("backlog(2)", ordinary().backlog(2), 0);
        due("backlog(0) without things", empty().backlog(0), 0);
        due("backlog(2) without things", empty().backlog(2), 0);
    }

    private static void backlogUpToThisYear() {
        sentence = "19: no choice of a year up to this one .. by choices in these years";
        WorksBudget x = oneThing(new int[] {1, 3, 4}, new long[] {5, 9, 7});
        x.run(8);
        due("the plan", plan(x), 0b010);
        long[] left = {0, 5, 5, 0, 0, 0};
        for (int year = 0; year < 6; year++) {
            due("backlog(" + year + ")", x.backlog(year), left[year]);
        }
    }

    private static void backlogWithoutAPlan() {
        sentence = "19: (without a plan: over all)";
        WorksBudget x = oneThing(new int[] {1, 3, 4}, new long[] {5, 9, 7});
        x.thing(1);
        long[] all = {0, 5, 5, 9, 9, 9};
        for (int year = 0; year < 6; year++) {
            due("backlog(" + year + ")", x.backlog(year), all[year]);
        }
        due("all twelve", row(1, 12, 5, MILLION).backlog(0), 12 * MILLION);
        WorksBudget y = row(1, 12, 5, MILLION);
        y.run(20_000);
        due("the empty plan leaves all twelve", y.backlog(0), 12 * MILLION);
        y.budget(0, 60);
        y.run(20_000);
        due("the full plan leaves none", y.backlog(0), 0);
    }

    private static void rankOfNoneSuch() {
        sentence = "20: BAD: none such";
        for (int k : new int[] {LEAST, -1, 12, 32, GREATEST}) {
            refused("rank(" + k + ")", x -> x.rank(k), BAD);
        }
        due("rank(0) without things", empty().rank(0), BAD);
        due("rank(3) of four", ordinary().rank(3), 3);
        due("rank(4) of four", ordinary().rank(4), BAD);
    }

    private static void rankOfEqualOnes() {
        sentence = "20: then by place, the lesser first; then by number";
        WorksBudget x = new WorksBudget(2);
        int[] places = {7, 6, 6, 7, 999, 0};
        for (int place : places) {
            x.thing(place);
        }
        int[] byPlace = {5, 1, 2, 0, 3, 4};
        for (int k = 0; k < 6; k++) {
            due("rank(" + k + ") without choices", x.rank(k), byPlace[k]);
        }
        x.choice(5, 0, 0, 0);
        due("a choice worth nothing is as none", x.rank(0), 5);
        x.choice(4, 1, 5, 1);
        due("a worth of 1 before all", x.rank(0), 4);
        due("then as before", x.rank(1), 5);
        x.choice(3, 0, 5, 1);
        due("the same worth, the lesser place", x.rank(0), 3);
        due("the same worth, the greater place", x.rank(1), 4);
    }

    private static void shareOfNoneSuch() {
        sentence = "21: BAD: none such";
        for (int none : new int[] {LEAST, -1, 4, 32, GREATEST}) {
            refused("share(" + none + ", 0)", x -> x.share(none, 0), BAD);
            refused("share(" + none + ", 1)", x -> x.share(none, 1), BAD);
        }
        for (int none : new int[] {LEAST, -1, 2, GREATEST}) {
            refused("share(0, " + none + ")", x -> x.share(0, none), BAD);
        }
        due("share(3, 0)", ordinary().share(3, 0), 1);
        due("share(3, 1)", ordinary().share(3, 1), 3);
    }

    private static void shareWithoutAPlan() {
        sentence = "21: BAD: no plan";
        for (int d = 0; d < 4; d++) {
            due("share(" + d + ", 0)", withoutAPlan().share(d, 0), BAD);
            due("share(" + d + ", 1)", withoutAPlan().share(d, 1), BAD);
        }
        due("share(0, 0) of an empty object", empty().share(0, 0), BAD);
    }

    private static void shareOfNothing() {
        sentence = "21: (0 / 1, if that is worth nothing)";
        WorksBudget x = row(1, 2, 1, 5);
        x.district(1, 1);
        x.run(4);
        for (int d = 0; d < 4; d++) {
            due("of an empty plan", x.share(d, 0), 0);
            due("of an empty plan", x.share(d, 1), 1);
        }
        x.budget(0, 1);
        x.run(4);
        due("all of it", x.share(0, 0), 1);
        due("all of it", x.share(0, 1), 1);
        due("nothing of it", x.share(1, 0), 0);
        due("nothing of it", x.share(1, 1), 1);
        due("a district without things", x.share(3, 0), 0);
        due("a district without things", x.share(3, 1), 1);
    }

    private static void shareInLeastTerms() {
        sentence = "21: in least terms";
        long[][] rows = {{6, 4, 3, 5}, {7, 4, 7, 11}, {1, 999_999, 1, MILLION}, {MILLION, MILLION, 1, 2},
            {MILLION, 999_999, MILLION, 1_999_999}, {12, 0, 1, 1}};
        for (long[] row : rows) {
            WorksBudget x = new WorksBudget(1);
            x.thing(0);
            x.thing(1);
            x.district(0, 2);
            x.choice(0, 0, 0, row[0]);
            x.choice(1, 0, 0, row[1]);
            x.run(4);
            due("upper of " + row[0] + " and " + row[1], x.share(2, 0), row[2]);
            due("lower of " + row[0] + " and " + row[1], x.share(2, 1), row[3]);
        }
    }

    private static void listOfNoneSuch() {
        sentence = "24: BAD: none such";
        for (int none : new int[] {LEAST, -1, 4, 32, GREATEST}) {
            refused("list(" + none + ", 0)", x -> x.list(none, 0), BAD);
        }
        for (int none : new int[] {LEAST, -1, 12, 32, GREATEST}) {
            refused("list(0, " + none + ")", x -> x.list(0, none), BAD);
        }
        WorksBudget x = ordinary();
        due("list(0, 0)", x.list(0, 0), 0);
        due("list(0, 1)", x.list(0, 1), BAD);
        due("list(1, 0)", x.list(1, 0), 2);
        due("list(2, 0), a district without things", x.list(2, 0), BAD);
        due("list(3, 0)", x.list(3, 0), 3);
        due("without a plan", withoutAPlan().list(0, 0), BAD);
        WorksBudget y = row(1, 12, 0, 1);
        y.run(20_000);
        due("list(0, 11)", y.list(0, 11), 11);
        due("list(0, 12)", y.list(0, 12), BAD);
    }

    private static void listByYearThenByChoice() {
        sentence = "24: by year, then by choice";
        WorksBudget x = new WorksBudget(6);
        int[] yearsOf = {5, 0, 5, 0, 4};
        for (int t = 0; t < 5; t++) {
            x.thing(t);
            x.choice(t, yearsOf[t], 0, 1);
        }
        x.run(32);
        int[] listed = {1, 3, 4, 0, 2};
        for (int k = 0; k < 5; k++) {
            due("list(0, " + k + ")", x.list(0, k), listed[k]);
        }
    }

    private static void earlierOfNoSuchYear() {
        sentence = "25: BAD: no such year, no plan";
        for (int year : new int[] {LEAST, -1, 6, GREATEST}) {
            refused("earlier(" + year + ")", x -> x.earlier(year), BAD);
        }
        leaves("earlier(3)", EdgesTest::ordinary, x -> x.earlier(3), BAD);
        due("earlier(2)", ordinary().earlier(2), 3);
        due("without a plan", withoutAPlan().earlier(0), BAD);
        due("of an empty object", empty().earlier(0), BAD);
        WorksBudget x = empty();
        x.run(1);
        due("of the empty plan", x.earlier(2), 0);
    }

    private static void earlierThanThisYear() {
        sentence = "25: of a year before this one";
        WorksBudget x = new WorksBudget(6);
        for (int t = 0; t < 12; t++) {
            x.thing(t);
            x.choice(t, t / 2, 0, 1);
        }
        x.run(20_000);
        for (int year = 0; year < 6; year++) {
            due("earlier(" + year + ")", x.earlier(year), 2 * year);
        }
    }

    private static void holdsOfNoneSuch() {
        sentence = "26: False also: none such, no plan";
        for (int year : new int[] {LEAST, -1, 6, GREATEST}) {
            refused("holds(" + year + ")", x -> bit(x.holds(year)), 0);
        }
        leaves("holds(3)", EdgesTest::ordinary, x -> bit(x.holds(3)), 0);
        due("holds(2)", ordinary().holds(2), true);
        due("without a plan", withoutAPlan().holds(0), false);
        due("of an empty object", empty().holds(0), false);
    }

    private static void holdsAtMostTheBudget() {
        sentence = "26: spends at most the budget of a year";
        WorksBudget x = row(2, 2, 10, 1);
        x.run(4);
        due("nothing of nothing", x.holds(0), true);
        x.budget(0, 20);
        x.run(4);
        due("20 of 20", x.worth(), 2);
        due("20 of 20", x.holds(0), true);
        x.budget(0, 11);
        x.join(0, 1, 9);
        x.policy(0);
        due("20 less 9 of 11", x.worth(), 2);
        due("20 less 9 of 11", x.holds(0), true);
        due("nothing in year 1", x.holds(1), true);
    }

    // ---- Promises 22 and 23: policies

    private static void policyOfAnotherKind() {
        sentence = "22: BAD (no plan is at hand then): another k";
        for (int k : new int[] {LEAST, -1, 3, GREATEST}) {
            WorksBudget x = ordinary();
            due("policy(" + k + ")", x.policy(k), BAD);
            due("worth()", x.worth(), BAD);
            due("the plan", plan(x), 0);
            due("proved()", x.proved(), true);
            due("of an empty object", empty().policy(k), BAD);
        }
        for (int k = 0; k < 3; k++) {
            WorksBudget x = empty();
            due("policy(" + k + ") of an empty object", x.policy(k), 0);
            due("worth()", x.worth(), 0);
        }
    }

    private static void policyWhenMustsDoNotHold() {
        sentence = "22: BAD: all musts together do not hold";
        for (int k = 0; k < 3; k++) {
            WorksBudget x = row(1, 3, 10, 5);
            x.must(0);
            x.must(2);
            x.budget(0, 20);
            due("just enough", x.policy(k), 10);
            due("just the musts", plan(x), 0b101);
            x.budget(0, 19);
            due("a cent less", x.policy(k), BAD);
            due("no plan is at hand", x.worth(), BAD);
            x.join(0, 2, 1);
            due("a join saves that cent", x.policy(k), 10);
            x.budget(0, 0);
            x.run(8);
            due("none holds", x.policy(k), BAD);
        }
    }

    private static void policyWhenMustsAreOfOneThing() {
        sentence = "22: BAD: all musts together do not hold (two of one thing)";
        for (int k = 0; k < 3; k++) {
            WorksBudget x = oneThing(new int[] {0, 1}, new long[] {5, 6});
            x.must(0);
            due("one must", x.policy(k), 5);
            x.must(1);
            due("two of one thing", x.policy(k), BAD);
            due("no plan is at hand", x.worth(), BAD);
        }
    }

    private static void policyDoesNotCountFairness() {
        sentence = "22: (fairness does not count)";
        for (int k = 0; k < 3; k++) {
            WorksBudget x = row(1, 2, 0, 5);
            x.choice(1, 0, 0, 5);
            x.district(1, 1);
            x.thing(9);
            x.district(2, 2);
            x.fair(0);
            due("choices", x.policy(k), 10);
            x.must(0);
            due("musts", x.policy(k), 10);
            due("no plan holds", x.run(8), 2);
        }
    }

    private static void policyTakesWhatStillHolds() {
        sentence = "22: each if all still holds with it";
        for (long budget : new long[] {29, 30, 31}) {
            WorksBudget x = row(2, 4, 10, 5);
            x.budget(0, budget);
            due("policy(0) with " + budget, x.policy(0), budget < 30 ? 10 : 15);
            due("the lesser ones", plan(x), budget < 30 ? 0b0011 : 0b0111);
        }
        // The dear one comes first, alone it is too dear; its turn does not come again.
        WorksBudget y = row(1, 2, 12, 9);
        y.choice(1, 0, 10, 5);
        y.join(0, 2, 12);
        y.budget(0, 10);
        due("one turn each", y.policy(0), 5);
        due("one turn each", plan(y), 0b100);
    }

    private static void policyByWorthOfEqualOnes() {
        sentence = "22: in all of equal ones the lesser choice first";
        for (int k = 0; k < 3; k++) {
            WorksBudget x = row(1, 4, 10, 5);
            x.budget(0, 10);
            x.policy(k);
            due("policy(" + k + ")", plan(x), 0b0001);
            x.thing(9);
            x.choice(4, 0, 10, 6);
            x.policy(k);
            due("policy(" + k + ") with a greater one", plan(x), 0b10000);
        }
        WorksBudget y = row(1, 1, 4, 2);
        y.choice(0, 0, 2, 1);
        y.budget(0, 4);
        due("equal by cost: the lesser choice", y.policy(1), 2);
        WorksBudget z = row(1, 1, 2, 1);
        z.choice(0, 0, 4, 2);
        z.budget(0, 4);
        due("equal by cost: the lesser choice", z.policy(1), 1);
    }

    private static void policyByWorthByCost0() {
        sentence = "22: (cost 0 before all, whatever the worth)";
        WorksBudget x = row(1, 1, 1, MILLION);
        x.choice(0, 0, 0, 0);
        x.budget(0, 1);
        due("0 for 0 before a million for 1", x.policy(1), 0);
        due("0 for 0 before a million for 1", plan(x), 0b10);
        x.choice(0, 0, 0, 7);
        due("of two of cost 0 the lesser choice", x.policy(1), 0);
        due("of two of cost 0 the lesser choice", plan(x), 0b010);
        due("by worth it is another", x.policy(0), MILLION);
        WorksBudget w = row(1, 1, 1, 5);
        w.thing(1);
        w.choice(1, 0, 0, 0);
        w.budget(0, 1);
        for (int k = 0; k < 3; k++) {
            due("there is room for both: policy(" + k + ")", w.policy(k), 5);
            due("there is room for both", plan(w), 0b11);
        }
        WorksBudget y = row(1, 1, 5, 0);
        y.choice(0, 0, 1, 0);
        y.budget(0, 5);
        y.policy(1);
        due("worth 0 by any cost is equal", plan(y), 0b01);
        WorksBudget z = row(1, 1, 999_999, 999_998);
        z.choice(0, 0, MILLION, 999_999);
        z.budget(0, MILLION);
        z.policy(1);
        due("999999 by 1000000 is more than 999998 by 999999", plan(z), 0b10);
    }

    private static void policyByYearThenWorth() {
        sentence = "22: 2 by year, then by worth, the greatest first";
        WorksBudget x = oneThing(new int[] {1, 0, 0}, new long[] {MILLION, 0, 1});
        due("year 0 first, of these worth 1", x.policy(2), 1);
        due("the plan", plan(x), 0b100);
        WorksBudget y = oneThing(new int[] {5, 4}, new long[] {9, 1});
        due("year 4 before year 5", y.policy(2), 1);
    }

    private static void compareOfNone() {
        sentence = "23: BAD: one of them has none";
        for (int none : new int[] {LEAST, -1, 3, GREATEST}) {
            refused("compare(0, " + none + ")", x -> x.compare(0, none), BAD);
            refused("compare(" + none + ", 2)", x -> x.compare(none, 2), BAD);
            refused("compare(" + none + ", " + none + ")", x -> x.compare(none, none), BAD);
        }
        leaves("compare(0, 1)", EdgesTest::withoutAPlan, x -> x.compare(0, 1), BAD);
        leaves("compare(2, 2)", EdgesTest::withoutAPlan, x -> x.compare(2, 2), BAD);
        due("compare(2, 0) of an empty object", empty().compare(2, 0), 0);
    }

    private static void compareLeavesThePlan() {
        sentence = "23: the plan at hand stays";
        Supplier<WorksBudget> made = () -> {
            WorksBudget x = row(1, 3, 4, 5);
            x.thing(9);
            x.choice(3, 0, 10, 9);
            x.budget(0, 10);
            x.policy(0);
            return x;
        };
        due("policy(0)", made.get().worth(), 9);
        leaves("compare(0, 1)", made, x -> x.compare(0, 1), -1);
        leaves("compare(1, 0)", made, x -> x.compare(1, 0), 1);
        leaves("compare(2, 1)", made, x -> x.compare(2, 1), -1);
        leaves("compare(1, 1)", made, x -> x.compare(1, 1), 0);
        WorksBudget x = row(1, 1, 0, 5);
        due("compare(0, 1)", x.compare(0, 1), 0);
        due("none comes to hand", x.worth(), BAD);
    }

    // ---- The whole object

    private static void greatestNumbers() {
        sentence = "a full object of the greatest numbers";
        for (long budget : new long[] {12 * MILLION - 1, 12 * MILLION}) {
            boolean enough = budget == 12 * MILLION;
            long most = enough ? 12 * MILLION : 11 * MILLION;
            WorksBudget x = withChoices(14, MILLION, MILLION);
            x.budget(0, budget);
            due("run(16384)", x.run(16_384), 0);
            due("worth()", x.worth(), most);
            due("policy(0)", x.policy(0), most);
            due("policy(1)", x.policy(1), most);
            due("policy(2)", x.policy(2), most);
            due("bound(0)", x.bound(0), 12 * MILLION);
            due("bound(1)", x.bound(1), budget);
            due("price(0, 0)", x.price(0, 0), enough ? 0 : MILLION);
            due("backlog(1)", x.backlog(1), 12 * MILLION - most);
            due("share(0, 1)", x.share(0, 1), 1);
        }
        WorksBudget y = withChoices(14, MILLION, MILLION);
        joinAll(y, 7, 20, MILLION);
        y.run(16_384);
        due("all by joins but for the last ones", y.worth(), 12 * MILLION);
        due("bound(1): 12 of a million, or less at price 1", y.bound(1), 12 * MILLION);
    }

    private static void theLastOf512Calls() {
        sentence = "An object is used for at most 512 calls";
        WorksBudget x = new WorksBudget(1);
        due("thing(0)", x.thing(0), 0);
        due("choice(0, 0, 1, 7)", x.choice(0, 0, 1, 7), 0);
        for (int call = 3; call <= 510; call++) {
            due("budget(0, " + call % 2 + ")", x.budget(0, call % 2), true);
        }
        due("the 511th call: run(2)", x.run(2), 0);
        due("the 512th call: worth()", x.worth(), 0);
        WorksBudget y = row(1, 1, 1, 7);
        for (int call = 3; call <= 510; call++) {
            due("old(0, ..)", y.old(0, call % 2 == 0), true);
        }
        due("the 511th call: changes(2)", y.changes(2), 1);
        due("the 512th call: changed(0)", y.changed(0), 0);
    }
}
