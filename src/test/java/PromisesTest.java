/** For each promise of the document: ordinary inputs, the edges it names, and wrong inputs. */
public final class PromisesTest {
    private static final int BAD = -1;
    private static int wrong = 0;
    private static String promise = "";

    public static void main(String[] args) {
        newObject();
        thing();
        choice();
        must();
        budget();
        join();
        district();
        fair();
        planAtHand();
        run();
        runOrder();
        runJoins();
        chosenAndWorth();
        bound();
        clash();
        proved();
        price();
        old();
        changes();
        backlog();
        rank();
        share();
        policy();
        policyOrders();
        compare();
        list();
        earlier();
        holds();
        readmeExample();
        System.out.println(wrong == 0 ? "all promises are kept" : wrong + " answers are not as due");
        if (wrong != 0) {
            System.exit(1);
        }
    }

    private static void due(String call, long got, long want) {
        if (got != want) {
            wrong++;
            System.out.println(promise + ": " + call + " answered " + got + ", due is " + want);
        }
    }

    private static void due(String call, boolean got, boolean want) {
        due(call, got ? 1 : 0, want ? 1 : 0);
    }

    /** An object whose things 0 .. n - 1 lie at places 0 .. n - 1. */
    private static WorksBudget withThings(int years, int n) {
        WorksBudget x = new WorksBudget(years);
        for (int t = 0; t < n; t++) {
            due("thing", x.thing(t), t);
        }
        return x;
    }

    /** The choices of the plan at hand, as bits. */
    private static int plan(WorksBudget x) {
        int set = 0;
        for (int c = 0; c < 14; c++) {
            set |= x.chosen(c) ? 1 << c : 0;
        }
        return set;
    }

    private static void newObject() {
        promise = "1 a new object";
        int[][] yearsOf = {{Integer.MIN_VALUE, 1}, {-1, 1}, {0, 1}, {1, 1}, {2, 2}, {5, 5}, {6, 6}, {7, 6},
            {Integer.MAX_VALUE, 6}};
        for (int[] pair : yearsOf) {
            WorksBudget x = new WorksBudget(pair[0]);
            due("budget of the last year", x.budget(pair[1] - 1, 1), true);
            due("budget past the last year", x.budget(pair[1], 1), false);
        }
        WorksBudget x = new WorksBudget(2);
        due("worth()", x.worth(), BAD);
        due("proved()", x.proved(), false);
        due("bound(0)", x.bound(0), 0);
        due("bound(1)", x.bound(1), 0);
        due("clash(0)", x.clash(0), BAD);
        due("rank(0)", x.rank(0), BAD);
        due("backlog(1)", x.backlog(1), 0);
        due("changed(0)", x.changed(0), BAD);
        due("share(0, 0)", x.share(0, 0), BAD);
        due("list(0, 0)", x.list(0, 0), BAD);
        due("earlier(0)", x.earlier(0), BAD);
        due("holds(0)", x.holds(0), false);
        due("choice of no thing", x.choice(0, 0, 1, 1), BAD);
        due("price(0, 0)", x.price(0, 0), 0);
        due("changes(1)", x.changes(1), 0);
        due("worth() of the empty plan", x.worth(), 0);
        due("BAD", WorksBudget.BAD, -1);
    }

    private static void thing() {
        promise = "2 thing";
        WorksBudget x = new WorksBudget(1);
        due("thing(-1)", x.thing(-1), BAD);
        due("thing(1000)", x.thing(1000), BAD);
        due("thing(MIN)", x.thing(Integer.MIN_VALUE), BAD);
        due("thing(MAX)", x.thing(Integer.MAX_VALUE), BAD);
        due("thing(0)", x.thing(0), 0);
        due("thing(999)", x.thing(999), 1);
        for (int t = 2; t < 12; t++) {
            due("thing(7)", x.thing(7), t);
        }
        due("a 13th thing", x.thing(7), BAD);
        due("rank(11)", x.rank(11), 1);
        due("rank(12)", x.rank(12), BAD);
    }

    private static void choice() {
        promise = "3 choice";
        WorksBudget x = withThings(2, 1);
        due("thing 1", x.choice(1, 0, 1, 1), BAD);
        due("thing -1", x.choice(-1, 0, 1, 1), BAD);
        due("year 2", x.choice(0, 2, 1, 1), BAD);
        due("year -1", x.choice(0, -1, 1, 1), BAD);
        due("cents -1", x.choice(0, 0, -1, 1), BAD);
        due("cents 1000001", x.choice(0, 0, 1_000_001, 1), BAD);
        due("cents 2^32", x.choice(0, 0, 1L << 32, 1), BAD);
        due("worth -1", x.choice(0, 0, 1, -1), BAD);
        due("worth 1000001", x.choice(0, 0, 1, 1_000_001), BAD);
        due("worth 2^32", x.choice(0, 0, 1, 1L << 32), BAD);
        due("worth MIN", x.choice(0, 0, 1, Long.MIN_VALUE), BAD);
        due("least", x.choice(0, 0, 0, 0), 0);
        due("greatest", x.choice(0, 1, 1_000_000, 1_000_000), 1);
        due("bound(0)", x.bound(0), 1_000_000);
        for (int c = 2; c < 14; c++) {
            due("choice", x.choice(0, 0, 5, 5), c);
        }
        due("a 15th choice", x.choice(0, 0, 5, 5), BAD);
        due("chosen(14)", x.chosen(14), false);
    }

    private static void must() {
        promise = "4 must";
        WorksBudget x = withThings(1, 2);
        x.choice(0, 0, 5, 1);
        x.choice(0, 0, 5, 9);
        x.budget(0, 5);
        due("must(-1)", x.must(-1), false);
        due("must(2)", x.must(2), false);
        due("must(32)", x.must(32), false);
        x.run(4);
        due("without a must", plan(x), 0b10);
        due("must(0)", x.must(0), true);
        due("must(0) again", x.must(0), false);
        due("run(4)", x.run(4), 0);
        due("with a must", plan(x), 0b01);
        due("must(1)", x.must(1), true);
        due("two of one thing", x.run(4), 2);
    }

    private static void budget() {
        promise = "5 budget";
        WorksBudget x = withThings(2, 2);
        x.choice(0, 0, 100, 3);
        x.choice(1, 1, 100, 4);
        due("year -1", x.budget(-1, 5), false);
        due("year 2", x.budget(2, 5), false);
        due("cents -1", x.budget(0, -1), false);
        due("cents 100000001", x.budget(0, 100_000_001), false);
        due("cents 2^32", x.budget(0, 1L << 32), false);
        x.run(4);
        due("0 at first", x.worth(), 0);
        due("budget(1, 99)", x.budget(1, 99), true);
        x.run(4);
        due("a cent less", x.worth(), 0);
        due("budget(1, 100)", x.budget(1, 100), true);
        x.run(4);
        due("just enough", x.worth(), 4);
        due("budget(0, 100000000)", x.budget(0, 100_000_000), true);
        x.run(4);
        due("both", x.worth(), 7);
        due("budget(1, 0)", x.budget(1, 0), true);
        x.run(4);
        due("taken back", x.worth(), 3);
    }

    private static void join() {
        promise = "6 join";
        WorksBudget x = withThings(2, 8);
        for (int t = 0; t < 8; t++) {
            x.choice(t, 0, 10, 1);
        }
        int other = x.choice(0, 0, 10, 1);
        int late = x.choice(1, 1, 10, 1);
        due("none such", x.join(0, 10, 1), false);
        due("none such", x.join(-1, 1, 1), false);
        due("none such", x.join(0, Integer.MAX_VALUE, 1), false);
        due("saves -1", x.join(0, 1, -1), false);
        due("saves 1000001", x.join(0, 1, 1_000_001), false);
        due("saves 2^32", x.join(0, 1, 1L << 32), false);
        due("the same", x.join(3, 3, 1), false);
        due("of two years", x.join(0, late, 1), false);
        due("of one thing", x.join(0, other, 1), false);
        int told = 0;
        for (int a = 0; a < 8; a++) {
            for (int b = a + 1; b < 8 && told < 20; b++) {
                due("join", x.join(a, b, told == 0 ? 0 : 1_000_000), true);
                told++;
                due("again", x.join(a, b, 7), false);
                due("again, the other way", x.join(b, a, 7), false);
            }
        }
        due("a 21st", x.join(6, 7, 1), false);
        due("a 21st with another", x.join(other, 7, 1), false);
    }

    private static void district() {
        promise = "7 district";
        WorksBudget x = withThings(1, 2);
        x.choice(0, 0, 0, 6);
        x.choice(1, 0, 0, 2);
        due("thing -1", x.district(-1, 0), false);
        due("thing 2", x.district(2, 0), false);
        due("d -1", x.district(0, -1), false);
        due("d 4", x.district(0, 4), false);
        x.run(4);
        due("0 at first", x.share(0, 0), 1);
        due("district(0, 3)", x.district(0, 3), true);
        due("district(1, 1)", x.district(1, 1), true);
        x.run(4);
        due("share(3, 0)", x.share(3, 0), 3);
        due("share(3, 1)", x.share(3, 1), 4);
        due("share(1, 0)", x.share(1, 0), 1);
        due("district(1, 3)", x.district(1, 3), true);
        x.run(4);
        due("share(3, 0)", x.share(3, 0), 1);
    }

    private static void fair() {
        promise = "8 fair";
        WorksBudget x = withThings(1, 3);
        x.choice(0, 0, 0, 10);
        x.choice(1, 0, 0, 4);
        x.choice(2, 0, 0, 3);
        x.district(1, 1);
        x.district(2, 1);
        due("fair(10000001)", x.fair(10_000_001), false);
        due("fair(MAX)", x.fair(Long.MAX_VALUE), false);
        x.run(8);
        due("none at first", x.worth(), 17);
        due("fair(2)", x.fair(2), true);
        x.run(8);
        due("no pair within 2 but of the small ones", x.worth(), 0);
        due("fair(3)", x.fair(3), true);
        x.run(8);
        due("10 and 7 differ by 3", x.worth(), 17);
        x.district(2, 2);
        x.run(8);
        due("10, 4, 3: too far; 0, 3 and 0: not too far", x.worth(), 3);
        x.fair(6);
        x.run(8);
        due("districts 0 and 1, not 2", x.worth(), 7);
        x.fair(7);
        x.run(8);
        due("all", x.worth(), 17);
        due("fair(0)", x.fair(0), true);
        x.run(8);
        due("nothing", x.worth(), 0);
        due("fair(10000000)", x.fair(10_000_000), true);
        x.run(8);
        due("10000000", x.worth(), 17);
        x.fair(0);
        due("fair(MIN)", x.fair(Long.MIN_VALUE), true);
        x.run(8);
        due("none", x.worth(), 17);
        // A district counts once it has a thing, be it one without choices.
        WorksBudget y = withThings(1, 2);
        y.choice(0, 0, 0, 10);
        y.fair(5);
        y.run(2);
        due("one district alone", y.worth(), 10);
        y.district(1, 2);
        y.run(2);
        due("an empty thing's district", y.worth(), 0);
    }

    private static void planAtHand() {
        promise = "the plan at hand";
        for (int told = 0; told < 14; told++) {
            WorksBudget x = withThings(2, 2);
            x.choice(0, 0, 0, 5);
            x.choice(1, 0, 0, 6);
            x.must(1);
            x.join(0, 1, 3);
            x.budget(0, 9);
            x.fair(100);
            x.run(4);
            due("worth() after run", x.worth(), 11);
            boolean takes = tell(x, told);
            due("told " + told, takes, told < 7);
            due("worth() after told " + told, x.worth(), takes ? BAD : 11);
            due("proved() after told " + told, x.proved(), !takes);
        }
        WorksBudget x = withThings(1, 1);
        x.choice(0, 0, 0, 5);
        x.run(2);
        x.old(0, true);
        due("old() leaves it", x.worth(), 5);
        x.run(0);
        x.changes(20_001);
        due("wrong nodes leave it", x.worth(), 5);
        x.compare(0, 1);
        x.price(0, 0);
        x.clash(0);
        x.bound(1);
        due("questions leave it", x.worth(), 5);
        x.policy(3);
        due("a wrong policy takes it", x.worth(), BAD);
    }

    /** Something told that is taken (0 .. 6), the same again where it may be, or refused (7 .. 13). */
    private static boolean tell(WorksBudget x, int which) {
        switch (which) {
            case 0: return x.thing(5) != BAD;
            case 1: return x.choice(0, 1, 5, 5) != BAD;
            case 2: return x.must(0);
            case 3: return x.budget(0, 9);
            case 4: return x.choice(1, 0, 5, 5) == 2 && x.join(0, 2, 1);
            case 5: return x.district(0, 0);
            case 6: return x.fair(100);
            case 7: return x.thing(1000) != BAD;
            case 8: return x.choice(2, 0, 5, 5) != BAD;
            case 9: return x.must(1);
            case 10: return x.budget(2, 9);
            case 11: return x.join(1, 0, 3);
            case 12: return x.district(0, 4);
            default: return x.fair(10_000_001);
        }
    }

    private static void run() {
        promise = "9 run";
        WorksBudget x = withThings(1, 2);
        due("run(1) of no choices", x.run(1), 0);
        due("the empty plan", x.worth(), 0);
        x.choice(0, 0, 10, 7);
        x.choice(1, 0, 10, 9);
        x.budget(0, 10);
        due("run(0)", x.run(0), BAD);
        due("run(-1)", x.run(-1), BAD);
        due("run(20001)", x.run(20_001), BAD);
        due("run(2^32 + 1)", x.run((1L << 32) + 1), BAD);
        due("run(1): both, too dear", x.run(1), 1);
        due("no plan", x.worth(), BAD);
        due("run(2): the first alone", x.run(2), 1);
        due("its worth", x.worth(), 7);
        due("run(20001)", x.run(20_001), BAD);
        due("changes nothing", x.worth(), 7);
        due("run(3)", x.run(3), 1);
        due("its worth", x.worth(), 9);
        due("run(4)", x.run(4), 0);
        due("run(20000)", x.run(20_000), 0);
        x.must(0);
        x.must(1);
        due("run(3): not all", x.run(3), 1);
        due("run(4): none holds", x.run(4), 2);
        due("no plan", x.worth(), BAD);
        WorksBudget y = withThings(1, 1);
        for (int c = 0; c < 14; c++) {
            y.choice(0, 0, 0, 14 - c);
        }
        due("run(8191)", y.run(8191), 1);
        due("the sets with choice 0 and another one", y.worth(), BAD);
        due("run(8192)", y.run(8192), 1);
        due("choice 0 alone", y.worth(), 14);
        due("run(16383)", y.run(16_383), 1);
        due("run(16384)", y.run(16_384), 0);
    }

    private static void runOrder() {
        promise = "9 run, the better plan";
        WorksBudget x = withThings(3, 1);
        x.choice(0, 2, 0, 5);
        x.choice(0, 1, 0, 5);
        x.choice(0, 1, 0, 5);
        x.choice(0, 0, 0, 4);
        x.run(16);
        due("more worth, then the lesser year, then the first", plan(x), 0b0010);
        WorksBudget y = withThings(2, 4);
        y.choice(0, 0, 0, 0);
        y.choice(1, 1, 0, 0);
        y.choice(2, 0, 0, 0);
        y.choice(3, 0, 1, 0);
        y.run(16);
        due("nothing's worth: in year 0 taken, in year 1 not", plan(y), 0b0101);
        WorksBudget z = withThings(2, 3);
        z.choice(0, 0, 10, 6);
        z.choice(1, 0, 5, 3);
        z.choice(2, 0, 5, 3);
        z.budget(0, 10);
        z.run(8);
        due("one of 6 before two of 3", plan(z), 0b001);
        WorksBudget w = withThings(3, 4);
        w.choice(0, 2, 5, 3);
        w.choice(1, 2, 5, 3);
        w.choice(2, 1, 5, 3);
        w.choice(3, 1, 5, 3);
        w.budget(2, 5);
        w.budget(1, 5);
        w.run(16);
        due("one of each year", plan(w), 0b0101);
    }

    private static void runJoins() {
        promise = "9 run, with joins";
        WorksBudget x = withThings(2, 3);
        x.choice(0, 0, 10, 1);
        x.choice(1, 0, 10, 1);
        x.choice(2, 0, 10, 1);
        x.budget(0, 16);
        x.run(8);
        due("one", x.worth(), 1);
        x.join(0, 2, 4);
        x.run(8);
        due("two that save", plan(x), 0b101);
        x.join(1, 2, 9);
        x.run(8);
        due("two ways, the first", plan(x), 0b101);
        x.budget(0, 17);
        x.run(8);
        due("both joins count", plan(x), 0b111);
        // What is saved over pays for others of the year, but not of another one.
        WorksBudget y = withThings(2, 4);
        y.choice(0, 0, 1, 1);
        y.choice(1, 0, 1, 1);
        y.choice(2, 0, 50, 100);
        y.choice(3, 1, 1, 1000);
        y.join(1, 0, 52);
        y.run(16);
        due("saves 52 of 52", plan(y), 0b0111);
        WorksBudget z = withThings(1, 3);
        z.choice(0, 0, 1, 1);
        z.choice(1, 0, 1, 1);
        z.choice(2, 0, 50, 100);
        z.join(0, 1, 51);
        z.run(8);
        due("saves 51 of 52", plan(z), 0b011);
    }

    private static void chosenAndWorth() {
        promise = "10 chosen, 11 worth";
        WorksBudget x = withThings(1, 2);
        x.choice(0, 0, 10, 7);
        x.choice(1, 0, 0, 5);
        due("chosen(1) without a plan", x.chosen(1), false);
        due("worth() without a plan", x.worth(), BAD);
        x.run(4);
        due("chosen(0)", x.chosen(0), false);
        due("chosen(1)", x.chosen(1), true);
        due("chosen(2)", x.chosen(2), false);
        due("chosen(-1)", x.chosen(-1), false);
        due("chosen(33)", x.chosen(33), false);
        due("chosen(-31)", x.chosen(-31), false);
        due("worth()", x.worth(), 5);
        x.budget(0, 10);
        due("worth() after a budget", x.worth(), BAD);
        due("chosen(1) after a budget", x.chosen(1), false);
        x.run(4);
        due("worth()", x.worth(), 12);
    }

    private static void bound() {
        promise = "12 bound";
        WorksBudget x = withThings(2, 2);
        x.choice(0, 0, 10, 7);
        due("bound(-1)", x.bound(-1), BAD);
        due("bound(2)", x.bound(2), BAD);
        due("bound(0)", x.bound(0), 7);
        due("bound(1) without money", x.bound(1), 0);
        x.budget(0, 2);
        x.budget(1, 3);
        due("5 times 7 / 10, cut off", x.bound(1), 3);
        x.choice(0, 1, 4, 6);
        due("the greater one of a thing", x.bound(0), 7);
        // Price 0: 7. Price 7/10: 3.5 + 6 - 2.8 = 6.7. Price 6/4: 7.5.
        due("bound(1)", x.bound(1), 6);
        x.choice(1, 0, 0, 8);
        due("bound(0)", x.bound(0), 15);
        due("a free one is no price", x.bound(1), 14);
        x.must(0);
        x.fair(0);
        due("musts and fairness do not matter", x.bound(1), 14);
        // Price 0: 220. Price 1: 5 + 11 + 11 + 190 = 217. Price 20: 100 + 30 + 30 + 0 = 160.
        WorksBudget y = withThings(1, 3);
        y.choice(0, 0, 10, 10);
        y.choice(1, 0, 10, 10);
        y.choice(2, 0, 10, 200);
        y.budget(0, 5);
        y.join(0, 1, 11);
        due("costs below 0", y.bound(1), 160);
        WorksBudget z = withThings(6, 1);
        z.choice(0, 0, 1, 1_000_000);
        z.choice(0, 0, 1_000_000, 1);
        for (int year = 0; year < 6; year++) {
            z.budget(year, 100_000_000);
        }
        due("the greatest numbers", z.bound(1), 1_000_000);
    }

    private static void clash() {
        promise = "13 clash";
        WorksBudget x = withThings(2, 4);
        x.choice(0, 0, 30, 1);
        x.choice(1, 0, 20, 1);
        x.choice(2, 0, 25, 1);
        x.choice(3, 1, 50, 1);
        x.budget(0, 45);
        x.budget(1, 50);
        x.must(3);
        x.must(1);
        x.must(0);
        due("no plan: 0 and 1", x.clash(0), 0);
        due("the 2nd", x.clash(1), 1);
        due("3 is not wanted", x.clash(2), BAD);
        due("clash(-1)", x.clash(-1), BAD);
        x.must(2);
        due("without 0: 1 and 2 hold, without 1: 0 and 2 do not", x.clash(0), 0);
        due("so 1 goes", x.clash(1), 2);
        due("no more", x.clash(2), BAD);
        x.budget(0, 75);
        due("all hold", x.clash(0), BAD);
        int twin = x.choice(3, 0, 0, 1);
        x.must(twin);
        due("two of one thing", x.clash(0), 3);
        due("two of one thing", x.clash(1), twin);
        due("two of one thing", x.clash(2), BAD);
        due("the plan at hand does not matter", x.run(1), 1);
        due("two of one thing", x.clash(1), twin);
        // By fairness alone: the must of 9 needs a worth of 4 at least in the other district.
        WorksBudget y = withThings(1, 3);
        y.choice(0, 0, 0, 9);
        y.choice(1, 0, 1, 4);
        y.choice(2, 0, 0, 0);
        y.district(1, 1);
        y.fair(5);
        y.must(0);
        y.must(2);
        due("unfair", y.clash(0), 0);
        due("unfair", y.clash(1), BAD);
        y.budget(0, 1);
        due("fair", y.clash(0), BAD);
    }

    private static void proved() {
        promise = "14 proved";
        WorksBudget x = withThings(1, 1);
        x.choice(0, 0, 5, 5);
        due("at first", x.proved(), false);
        x.run(1);
        due("not all", x.proved(), false);
        x.run(2);
        due("all", x.proved(), true);
        x.run(0);
        due("run(0) was BAD", x.proved(), true);
        x.policy(0);
        x.policy(7);
        x.changes(1);
        x.changes(0);
        x.old(0, true);
        due("others do not matter", x.proved(), true);
        x.must(5);
        x.budget(1, 5);
        due("what is refused was not told", x.proved(), true);
        x.budget(0, 0);
        due("the same again", x.proved(), false);
        x.must(0);
        due("run(2)", x.run(2), 2);
        due("none holds", x.proved(), true);
        x.run(1);
        due("not all", x.proved(), false);
    }

    private static void price() {
        promise = "15 price";
        WorksBudget x = withThings(2, 2);
        x.choice(0, 0, 1000, 40);
        x.choice(1, 1, 1500, 60);
        due("year -1", x.price(-1, 0), BAD);
        due("year 2", x.price(2, 0), BAD);
        due("year 2, part 1", x.price(2, 1), BAD);
        due("part -1", x.price(0, -1), BAD);
        due("part 2", x.price(0, 2), BAD);
        due("just enough", x.price(0, 0), 40);
        due("not enough", x.price(1, 0), 0);
        // Price 40 / 1000: both choices pay for themselves, so 1,000 cents are worth 40.
        due("part 1", x.price(0, 1), 40);
        due("part 1 of the other year", x.price(1, 1), 40);
        x.budget(1, 500);
        due("now enough", x.price(1, 0), 60);
        due("part 1: from 20 to 60", x.price(1, 1), 40);
        due("no plan comes to hand", x.worth(), BAD);
        due("the budget stays", x.run(4), 0);
        due("the budget stays", x.worth(), 0);
        x.budget(0, 100_000_000);
        due("above the greatest budget", x.price(0, 0), 0);
        x.budget(0, 0);
        x.must(0);
        due("no plan holds now", x.price(0, 0), BAD);
        due("part 1 all the same", x.price(0, 1), 40);
        WorksBudget y = withThings(1, 1);
        y.choice(0, 0, 1001, 40);
        due("a cent too dear", y.price(0, 0), 0);
        due("1000 times 40 / 1001, cut off", y.price(0, 1), 39);
    }

    private static void old() {
        promise = "16 old";
        WorksBudget x = withThings(1, 2);
        due("old(0, true)", x.old(0, true), false);
        x.choice(0, 0, 0, 5);
        x.choice(0, 0, 0, 6);
        due("old(-1, true)", x.old(-1, true), false);
        due("old(2, true)", x.old(2, true), false);
        due("old(32, true)", x.old(32, true), false);
        due("old(0, true)", x.old(0, true), true);
        due("old(0, true) again", x.old(0, true), true);
        due("old(1, false)", x.old(1, false), true);
        due("changes", x.changes(4), 0);
        due("the old plan", plan(x), 0b01);
        due("it may be none: two of a thing", x.old(1, true), true);
        due("changes", x.changes(4), 1);
        due("the better one", plan(x), 0b10);
        due("it goes", x.old(1, false), true);
        due("and the other", x.old(0, false), true);
        due("changes", x.changes(4), 0);
        due("nothing", plan(x), 0);
        x.old(1, true);
        x.thing(3);
        x.budget(0, 8);
        due("it stays when something is told", x.changes(4), 0);
        due("it stays when something is told", plan(x), 0b10);
    }

    private static void changes() {
        promise = "17 changes, 18 changed";
        WorksBudget x = withThings(2, 3);
        x.choice(0, 0, 10, 5);
        x.choice(0, 1, 10, 5);
        x.choice(1, 0, 10, 9);
        x.choice(2, 1, 10, 7);
        x.budget(0, 10);
        x.budget(1, 10);
        due("changed(0) without a plan", x.changed(0), BAD);
        x.old(0, true);
        x.old(3, true);
        due("changes(16)", x.changes(16), 0);
        due("the old plan", plan(x), 0b1001);
        due("changed(0)", x.changed(0), BAD);
        x.must(2);
        due("changes(16)", x.changes(16), 2);
        due("2 for 0", plan(x), 0b1100);
        due("changed(0)", x.changed(0), 0);
        due("changed(1)", x.changed(1), 2);
        due("changed(2)", x.changed(2), BAD);
        due("changed(-1)", x.changed(-1), BAD);
        x.old(0, false);
        due("old() counts at once", x.changed(0), 2);
        due("old() counts at once", x.changed(1), BAD);
        x.old(0, true);
        due("changes(0)", x.changes(0), BAD);
        due("changes(20001)", x.changes(20_001), BAD);
        due("changes(MIN)", x.changes(Long.MIN_VALUE), BAD);
        due("nothing changes", plan(x), 0b1100);
        due("the sets with 0", x.changes(8), BAD);
        due("no plan is at hand then", x.worth(), BAD);
        due("changed(0)", x.changed(0), BAD);
        due("the sets down to 1 and 2", x.changes(10), 4);
        due("1 and 2", plan(x), 0b0110);
        due("changes(20000)", x.changes(20_000), 2);
        // Of equally few changes: more worth, then the lesser years, then the first.
        WorksBudget y = withThings(2, 2);
        y.choice(0, 1, 0, 5);
        y.choice(0, 0, 0, 4);
        y.choice(0, 0, 0, 5);
        y.choice(0, 0, 0, 5);
        y.choice(1, 0, 1, 9);
        y.old(4, true);
        due("only that one goes", y.changes(32), 1);
        due("only that one goes", plan(y), 0);
        y.old(0, true);
        y.old(1, true);
        y.old(2, true);
        y.old(3, true);
        y.old(4, false);
        due("three of four go", y.changes(32), 3);
        due("the better stays", plan(y), 0b00100);
    }

    private static void backlog() {
        promise = "19 backlog";
        WorksBudget x = withThings(3, 3);
        x.choice(0, 0, 10, 5);
        x.choice(0, 2, 10, 8);
        x.choice(1, 1, 10, 6);
        x.choice(1, 1, 10, 4);
        due("year -1", x.backlog(-1), BAD);
        due("year 3", x.backlog(3), BAD);
        due("without a plan: year 0", x.backlog(0), 5);
        due("year 1", x.backlog(1), 11);
        due("year 2", x.backlog(2), 14);
        x.budget(2, 10);
        x.run(16);
        due("the plan", plan(x), 0b0010);
        due("done later: year 0", x.backlog(0), 5);
        due("done later: year 1", x.backlog(1), 11);
        due("done by then", x.backlog(2), 6);
        x.budget(1, 10);
        x.must(3);
        x.run(16);
        due("a lesser choice is done too", x.backlog(1), 5);
        due("all", x.backlog(2), 0);
    }

    private static void rank() {
        promise = "20 rank";
        WorksBudget x = new WorksBudget(2);
        x.thing(50);
        x.thing(40);
        x.thing(40);
        x.thing(10);
        x.thing(90);
        x.choice(1, 0, 0, 7);
        x.choice(2, 1, 0, 7);
        x.choice(2, 0, 0, 2);
        x.choice(0, 0, 0, 7);
        x.choice(4, 0, 0, 3);
        x.choice(4, 1, 0, 8);
        int[] want = {4, 1, 2, 0, 3};
        for (int k = 0; k < 5; k++) {
            due("rank(" + k + ")", x.rank(k), want[k]);
        }
        due("rank(5)", x.rank(5), BAD);
        due("rank(-1)", x.rank(-1), BAD);
        x.thing(5);
        due("without choices, by place", x.rank(4), 5);
        due("without choices, by place", x.rank(5), 3);
    }

    private static void share() {
        promise = "21 share";
        WorksBudget x = withThings(1, 3);
        x.choice(0, 0, 0, 4);
        x.choice(1, 0, 0, 6);
        x.choice(2, 0, 0, 0);
        x.district(1, 1);
        x.district(2, 2);
        due("no plan", x.share(0, 0), BAD);
        due("no plan", x.share(0, 1), BAD);
        x.run(8);
        due("d -1", x.share(-1, 0), BAD);
        due("d 4", x.share(4, 0), BAD);
        due("part -1", x.share(0, -1), BAD);
        due("part 2", x.share(0, 2), BAD);
        due("4 / 10", x.share(0, 0), 2);
        due("4 / 10", x.share(0, 1), 5);
        due("6 / 10", x.share(1, 0), 3);
        due("6 / 10", x.share(1, 1), 5);
        due("0 / 10", x.share(2, 0), 0);
        due("0 / 10", x.share(2, 1), 1);
        due("a district without things", x.share(3, 0), 0);
        due("a district without things", x.share(3, 1), 1);
        x.fair(0);
        x.run(8);
        due("a plan worth nothing", x.share(0, 0), 0);
        due("a plan worth nothing", x.share(0, 1), 1);
    }

    private static void policy() {
        promise = "22 policy";
        WorksBudget x = withThings(1, 3);
        x.choice(0, 0, 10, 9);
        x.choice(0, 0, 2, 3);
        x.choice(1, 0, 4, 5);
        x.choice(2, 0, 4, 5);
        x.budget(0, 10);
        due("policy(0)", x.policy(0), 9);
        due("the one of most worth", plan(x), 0b0001);
        due("worth()", x.worth(), 9);
        due("policy(-1)", x.policy(-1), BAD);
        due("no plan", x.worth(), BAD);
        due("policy(1)", x.policy(1), 13);
        due("three", plan(x), 0b1110);
        due("policy(3)", x.policy(3), BAD);
        due("no plan", x.worth(), BAD);
        x.must(3);
        due("the must first", x.policy(0), 13);
        due("then by worth", plan(x), 0b1110);
        x.fair(0);
        x.district(0, 1);
        due("fairness does not count", x.policy(0), 13);
        x.fair(-1);
        x.must(0);
        due("the musts together are too dear", x.policy(0), BAD);
        due("no plan", x.worth(), BAD);
        x.join(0, 3, 4);
        due("by a join they are not", x.policy(0), 14);
        x.must(1);
        x.budget(0, 100);
        due("two musts of one thing", x.policy(1), BAD);
        // Each choice has its turn once: what a later join would allow stays out.
        WorksBudget y = withThings(1, 2);
        y.choice(0, 0, 12, 9);
        y.choice(1, 0, 10, 5);
        y.join(0, 1, 12);
        y.budget(0, 10);
        due("one turn each", y.policy(0), 5);
        due("the search finds both", y.run(4), 0);
        due("the search finds both", y.worth(), 14);
    }

    private static void policyOrders() {
        promise = "22 policy, the orders";
        WorksBudget x = withThings(2, 1);
        x.choice(0, 1, 10, 20);
        x.choice(0, 1, 5, 20);
        x.choice(0, 0, 5, 3);
        x.choice(0, 0, 5, 4);
        x.choice(0, 0, 5, 4);
        x.budget(0, 10);
        x.budget(1, 10);
        x.policy(0);
        due("by worth, the lesser choice first", plan(x), 0b00001);
        x.policy(1);
        due("by worth by cost", plan(x), 0b00010);
        x.policy(2);
        due("by year, then worth, then the lesser choice", plan(x), 0b01000);
        x.choice(0, 1, 0, 0);
        x.choice(0, 0, 0, 50);
        x.policy(1);
        due("cost 0 before all, whatever the worth; the lesser choice first", plan(x), 0b0100000);
        WorksBudget y = withThings(1, 1);
        y.choice(0, 0, 999_999, 999_998);
        y.choice(0, 0, 1_000_000, 999_999);
        y.choice(0, 0, 4, 2);
        y.budget(0, 1_000_000);
        y.policy(1);
        due("close fractions", plan(y), 0b010);
        WorksBudget z = withThings(1, 1);
        z.choice(0, 0, 4, 2);
        z.choice(0, 0, 2, 1);
        z.budget(0, 4);
        z.policy(1);
        due("equal fractions", plan(z), 0b01);
    }

    private static void compare() {
        promise = "23 compare";
        WorksBudget x = withThings(1, 3);
        x.choice(0, 0, 10, 9);
        x.choice(1, 0, 4, 5);
        x.choice(2, 0, 4, 5);
        x.budget(0, 10);
        x.run(8);
        due("compare(0, 1)", x.compare(0, 1), -1);
        due("compare(1, 0)", x.compare(1, 0), 1);
        due("compare(2, 0)", x.compare(2, 0), 0);
        due("compare(0, 0)", x.compare(0, 0), 0);
        due("the plan stays", plan(x), 0b110);
        due("compare(1, 3)", x.compare(1, 3), BAD);
        due("compare(3, 1)", x.compare(3, 1), BAD);
        due("compare(-1, 0)", x.compare(-1, 0), BAD);
        due("the plan stays", plan(x), 0b110);
        x.policy(0);
        x.compare(1, 2);
        due("the plan stays", plan(x), 0b001);
        x.must(0);
        x.must(1);
        due("neither has a plan", x.compare(1, 0), BAD);
        due("no plan comes", x.worth(), BAD);
    }

    private static void list() {
        promise = "24 list";
        WorksBudget x = withThings(3, 5);
        x.choice(0, 2, 0, 1);
        x.choice(1, 0, 0, 1);
        x.choice(2, 2, 0, 1);
        x.choice(3, 0, 0, 1);
        x.choice(4, 1, 0, 1);
        x.choice(4, 0, 9, 1);
        x.district(3, 3);
        due("no plan", x.list(0, 0), BAD);
        x.run(64);
        int[] want = {1, 4, 0, 2};
        for (int k = 0; k < 4; k++) {
            due("list(0, " + k + ")", x.list(0, k), want[k]);
        }
        due("list(0, 4)", x.list(0, 4), BAD);
        due("list(0, -1)", x.list(0, -1), BAD);
        due("list(0, MAX)", x.list(0, Integer.MAX_VALUE), BAD);
        due("list(3, 0)", x.list(3, 0), 3);
        due("list(3, 1)", x.list(3, 1), BAD);
        due("list(2, 0)", x.list(2, 0), BAD);
        due("list(4, 0)", x.list(4, 0), BAD);
        due("list(-1, 0)", x.list(-1, 0), BAD);
    }

    private static void earlier() {
        promise = "25 earlier";
        WorksBudget x = withThings(3, 4);
        x.choice(0, 0, 0, 1);
        x.choice(1, 0, 0, 1);
        x.choice(2, 1, 0, 1);
        x.choice(3, 2, 0, 1);
        due("no plan", x.earlier(1), BAD);
        x.run(16);
        due("earlier(0)", x.earlier(0), 0);
        due("earlier(1)", x.earlier(1), 2);
        due("earlier(2)", x.earlier(2), 3);
        due("earlier(3)", x.earlier(3), BAD);
        due("earlier(-1)", x.earlier(-1), BAD);
        x.fair(0);
        x.district(3, 1);
        x.run(16);
        due("only the one of year 0 that is fair", x.earlier(1), 1);
    }

    private static void holds() {
        promise = "26 holds";
        WorksBudget x = withThings(2, 2);
        x.choice(0, 0, 10, 1);
        x.choice(1, 0, 10, 1);
        x.join(0, 1, 9);
        due("no plan", x.holds(0), false);
        x.run(4);
        due("the empty plan spends 0 of 0", x.holds(0), true);
        x.budget(0, 11);
        due("no plan", x.holds(0), false);
        x.run(4);
        due("both", x.worth(), 2);
        due("holds(0)", x.holds(0), true);
        due("holds(1)", x.holds(1), true);
        due("holds(2)", x.holds(2), false);
        due("holds(-1)", x.holds(-1), false);
        x.policy(9);
        due("no plan", x.holds(0), false);
    }

    private static void readmeExample() {
        promise = "README.md";
        WorksBudget b = new WorksBudget(2);
        int bridge = b.thing(120);
        int soon = b.choice(bridge, 0, 700, 50);
        int late = b.choice(bridge, 1, 650, 45);
        due("budget(1, 650)", b.budget(1, 650), true);
        due("run(20_000)", b.run(20_000), 0);
        due("chosen(soon)", b.chosen(soon), false);
        due("chosen(late)", b.chosen(late), true);
        due("worth()", b.worth(), 45);
        due("price(0, 0)", b.price(0, 0), 5);
    }
}
