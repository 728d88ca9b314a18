/** Promises 18 to 26: an aunt, and plans (terms, III). */
final class BoundsOfAdvice extends Bounds {
    private static final String THREE = "lake mice 0;house a north weight 3;house b south weight 4;house c north weight 5;rope a b;"
            + "corks a red 1;guest f weight 1 at a;guest g weight 2 at c;drinker p white drinks 4;drinker q fizzy drinks 2;"
            + "feast c week 1 high 1";
    private static final String FIVE = "lake mice 0;house a north weight 0;house b north weight 0;house c north weight 0;"
            + "house d north weight 0;house e north weight 0";
    /** 495 of houses as one RAFT. */
    private static final String HEAVY = FIVE.replace("weight 0", "weight 99") + ";rope a b;rope b c;rope c d;rope d e";

    BoundsOfAdvice(Due due) {
        super(due);
    }

    // ---- Promise 18

    void promise18_auntAtAHouseThatThereIs() {
        never(NO_LAKE, "aunt", 1, (x, h) -> x.aunt(h, 0, 0));
        bounded(BARE, "aunt", 0, 0, 1, (x, h) -> x.aunt(h, 0, 0));
        bounded(THREE, "aunt", 0, 2, 1, (x, h) -> x.aunt(h, 99, 4));
        bounded(FIVE, "aunt", 0, 4, 1, (x, h) -> x.aunt(h, 0, 0));
    }

    void promise18_auntWeighs0To99() {
        bounded(THREE, "aunt, weight", 0, 99, 2, (x, weight) -> x.aunt(0, weight, 0));
        answers(BARE, "no weight", 0, x -> x.aunt(0, 0, 3));
        answers(BARE, "weight 99", 50, x -> x.aunt(0, 99, 3));
    }

    void promise18_auntAsksForAKindFrom0To4() {
        bounded(THREE, "aunt, kind", 0, 4, 2, (x, kind) -> x.aunt(0, 0, kind));
        for (int kind = 0; kind < 5; kind++) {
            int asked = kind;
            answers(BARE, "12 by " + KINDS[kind], 12 / LIFTS[kind], x -> x.aunt(0, 12, asked));
            answers(BARE, "13 by " + KINDS[kind], (13 + LIFTS[kind] - 1) / LIFTS[kind], x -> x.aunt(0, 13, asked));
        }
    }

    void promise18_auntOfNoHouseGoesAheadOfANumber() {
        refused(THREE, "no house, no weight, no kind", 1, x -> x.aunt(3, 100, 5));
        refused(NO_LAKE, "no LAKE, no weight, no kind", 1, x -> x.aunt(0, -1, -1));
        refused(THREE, "no weight, no kind", 2, x -> x.aunt(0, 100, 5));
    }

    void promise18_auntNeeds300SoftOnesAtMost() {
        String raft = "lake mice 0;house a north weight 99;house b north weight 99;house c north weight 99;rope a b;rope b c";
        answers(raft, "300", 300, x -> x.aunt(1, 3, 2));
        answers(raft, "301", -2, x -> x.aunt(1, 4, 2));
        answers(raft, "299", 299, x -> x.aunt(1, 2, 2));
    }

    void promise18_auntNeeds300OfTwoLiftsAtMost() {
        String raft = HEAVY + ";guest f weight 50 at a;guest g weight 50 at b;guest h weight 5 at e";
        for (int kind : new int[] {1, 3}) {
            answers(raft, "600 by " + KINDS[kind], 300, x -> x.aunt(4, 0, kind));
            answers(raft, "601 by " + KINDS[kind], -2, x -> x.aunt(4, 1, kind));
        }
    }

    void promise18_auntWhereAllIsAsHeavyAsMayBe() {
        String raft = HEAVY + ";guest f weight 50 at a;guest g weight 50 at b;guest h weight 50 at e";
        int[] corks = {248, -2, -2, -2, 186};
        for (int kind = 0; kind < 5; kind++) {
            int asked = kind;
            answers(raft, "744 by " + KINDS[kind], corks[kind], x -> x.aunt(2, 99, asked));
        }
    }

    void promise18_auntNeedsNoneWhereHerRaftBearsHer() {
        String raft = FIVE + ";rope a b;corks b white 5;guest g weight 3 at d";
        answers(raft, "10 of 10", 0, x -> x.aunt(0, 10, 0));
        answers(raft, "11 of 10", 1, x -> x.aunt(0, 11, 0));
        answers(raft, "13 of 10", 1, x -> x.aunt(0, 13, 0));
        answers(raft, "14 of 10", 2, x -> x.aunt(0, 14, 0));
        answers(raft, "another raft is UNDER", 0, x -> x.aunt(2, 0, 0));
        answers(raft, "the raft that is UNDER", 1, x -> x.aunt(3, 0, 0));
    }

    // ---- Promise 19

    void promise19_bestStayOfWeights0To99() {
        never(NO_LAKE, "bestStay", 1, (x, weight) -> x.bestStay(weight));
        refused(NO_LAKE, "no LAKE, too heavy", 1, x -> x.bestStay(100));
        bounded(THREE, "bestStay, weight", 0, 99, 2, (x, weight) -> x.bestStay(weight));
        bounded(BARE, "bestStay, weight", 0, 99, 2, (x, weight) -> x.bestStay(weight));
    }

    void promise19_bestStayIsTheFirstSuch() {
        answers(FIVE, "all alike", 0, x -> x.bestStay(5));
        answers(FIVE, "no weight", 0, x -> x.bestStay(0));
        answers(BARE, "the only one", 0, x -> x.bestStay(99));
        answers(FIVE + ";corks e white 1", "e bears 2", 4, x -> x.bestStay(2));
        answers(FIVE + ";corks e white 1", "e bears 3 best", 4, x -> x.bestStay(3));
        answers(FIVE + ";corks b white 1;corks e white 1", "of like ones the first", 1, x -> x.bestStay(2));
        answers(FIVE + ";rope d e;corks e soft 1", "1 by 2 less 1 is still 0", 3, x -> x.bestStay(1));
        answers(FIVE + ";guest g weight 9 at c", "the lowest is another, so anywhere but there", 0, x -> x.bestStay(9));
        answers(FIVE + ";guest g weight 9 at a", "the lowest is the first", 1, x -> x.bestStay(9));
        answers(FIVE + ";guest g weight 9 at a", "10 would be lower than -9 anywhere alone", 1, x -> x.bestStay(10));
        answers(FIVE + ";guest f weight 9 at a;guest g weight 5 at b", "a is the lowest, wherever but there", 1, x -> x.bestStay(3));
    }

    // ---- Promise 20

    void promise20_bestMoveOfAGuestThatThereIs() {
        never(NO_LAKE, "bestMove", 1, (x, g) -> x.bestMove(g));
        never(BARE, "bestMove", 1, (x, g) -> x.bestMove(g));
        bounded(THREE, "bestMove", 0, 1, 1, (x, g) -> x.bestMove(g));
        bounded(BoundsOfText.full(), "bestMove", 0, 2, 1, (x, g) -> x.bestMove(g));
    }

    void promise20_bestMoveMayBeWhereItIs() {
        answers(BARE + ";guest g weight 50 at a", "the only house", 0, x -> x.bestMove(0));
        answers(FIVE + ";corks c white 1;guest g weight 2 at c", "where it is", 2, x -> x.bestMove(0));
        answers(FIVE + ";corks c white 1;guest g weight 2 at d", "where it should be", 2, x -> x.bestMove(0));
        answers(made(FIVE + ";corks c white 1;guest g weight 2 at d", x -> x.move(0, 2)), "where it is NOW", 2, x -> x.bestMove(0));
        answers(FIVE + ";guest g weight 2 at e", "all alike, the first", 0, x -> x.bestMove(0));
        answers(FIVE + ";corks b white 1;corks e white 1;guest g weight 2 at e", "of like ones the first", 1, x -> x.bestMove(0));
    }

    // ---- Promise 21

    void promise21_bestCutNeedsALake() {
        refused(NO_LAKE, "bestCut()", 1, x -> x.bestCut());
    }

    void promise21_bestCutByNoneMore() {
        String raft = "lake mice 0;house a north weight 2;house b north weight 0;rope a b;corks b white 1";
        answers(FIVE, "no ropes", -2, x -> x.bestCut());
        answers(raft, "one would sink", -2, x -> x.bestCut());
        answers(raft.replace("white", "soft"), "b comes up", 0, x -> x.bestCut());
        answers(made(raft.replace("white", "soft"), x -> x.cut(0)), "it is cut", -2, x -> x.bestCut());
        answers(raft.replace("weight 0", "weight 3"), "both stay UNDER", -2, x -> x.bestCut());
    }

    void promise21_bestCutBringsMostTheFirstSuch() {
        String chain = "lake mice 0;house a north weight 1;house b north weight 0;house c north weight 0;house d north weight 0;"
                + "house e north weight 1;";
        answers(chain + "rope d c;rope a b;rope b c;rope d e", "by cuts 1 and 3 nobody more, a and e being UNDER by 1", -2, x -> x.bestCut());
        answers(chain + "rope c d;rope b c;rope a b", "three come up by the last", 2, x -> x.bestCut());
        answers(chain + "rope a b;rope a c;rope a d", "of like ones the first", 0, x -> x.bestCut());
        answers(made(chain + "rope a b;rope a c;rope a d", x -> x.cut(0)), "of those that are tied", 1, x -> x.bestCut());
    }

    // ---- Promise 22

    void promise22_planFor1To4Days() {
        never(NO_LAKE, "plan", 1, (x, n) -> x.plan(n));
        bounded(THREE, "plan, days", 1, 4, 2, (x, n) -> x.plan(n));
        bounded(BARE, "plan, days", 1, 4, 2, (x, n) -> x.plan(n));
        refused(THREE, "plan(0)", 2, x -> x.plan(0));
        refused(NO_LAKE, "plan(5)", 1, x -> x.plan(5));
    }

    void promise22_planOfNoBottles() {
        for (int n = 1; n <= 4; n++) {
            int days = n;
            answers(BARE, "nobody UNDER, no drinker", 0, x -> x.plan(days));
            answers(BARE + ";drinker p red drinks 9", "nobody UNDER", 0, x -> x.plan(days));
            answers("lake mice 0;house a north weight 1", "no drinker", -2, x -> x.plan(days));
        }
    }

    void promise22_planAsManyDaysAsThereAre() {
        for (int n = 1; n <= 4; n++) {
            int days = n;
            String lacking = "lake mice 0;drinker p white drinks 1;house a north weight ";
            answers(lacking + 2 * n, "just so", n, x -> x.plan(days));
            answers(lacking + (2 * n + 1), "one is lacking", -2, x -> x.plan(days));
            answers(lacking + (2 * n - 1), "one is left", n, x -> x.plan(days));
        }
    }

    void promise22_planOfAllThatCanBeDrunk() {
        // On four days 100 red ones, which lift 300; there are 297 of houses.
        String all = "lake mice 0;house a north weight 99;house b north weight 99;house c north weight 99;rope a b;rope b c;"
                + "drinker p red drinks 9;drinker q red drinks 9;drinker r red drinks 7;guest g weight ";
        answers(all + "3 at b", "300", 100, x -> x.plan(4));
        answers(all + "4 at b", "301", -2, x -> x.plan(4));
        answers(all + "3 at b", "300 in three days", -2, x -> x.plan(3));
    }

    void promise22_planPutsAllCorksOfADrinkerUnderOneHouse() {
        String rafts = "lake mice 0;house a north weight 1;house b north weight 1;house c north weight 1;house d north weight 1;";
        String drinkers = "drinker p fizzy drinks 9;drinker q fizzy drinks 9;drinker r fizzy drinks 9";
        answers(rafts + drinkers, "four rafts, three drinkers", -2, x -> x.plan(4));
        answers(rafts + drinkers + ";rope a d", "three rafts, three drinkers", 27, x -> x.plan(4));
        answers(rafts + "drinker p fizzy drinks 9;rope a d;rope a b;rope b c", "one of each", 9, x -> x.plan(4));
    }

    void promise22_planIsFromNow() {
        String red = "lake mice 0;house a north weight 3;house b north weight 0;corks a red 1;drinker p white drinks 1;guest g weight 2 at a";
        answers(red, "with the guest", 1, x -> x.plan(1));
        answers(made(red, x -> x.move(0, 1)), "without him", 1, x -> x.plan(1));
        answers(made(red, x -> {
            x.move(0, 1);
            x.drink(0, 1);
        }), "what is drunk bears him", 0, x -> x.plan(1));
        answers(made(red, x -> x.week()), "a week later", -2, x -> x.plan(1));
        answers(made(red, x -> x.week()), "a week later, more days", 2, x -> x.plan(2));
    }

    // ---- Promise 23

    void promise23_planDaysOfADrinkerThatThereIs() {
        never(NO_LAKE, "planDays", 1, (x, d) -> x.planDays(d, 1));
        never(BARE, "planDays", 1, (x, d) -> x.planDays(d, 1));
        bounded(THREE, "planDays", 0, 1, 1, (x, d) -> x.planDays(d, 4));
        bounded(BoundsOfText.full(), "planDays", 0, 2, 1, (x, d) -> x.planDays(d, 1));
    }

    void promise23_planDaysFor1To4Days() {
        bounded(THREE, "planDays, days", 1, 4, 2, (x, n) -> x.planDays(1, n));
        refused(THREE, "planDays(1, 0)", 2, x -> x.planDays(1, 0));
        refused(THREE, "neither", 1, x -> x.planDays(2, 5));
        refused(NO_LAKE, "no LAKE, no days", 1, x -> x.planDays(0, 0));
    }

    void promise23_planDaysAreFewestForTheFirstDrinkers() {
        String like = "lake mice 0;house a north weight 6;drinker p white drinks 1;drinker q white drinks 1;drinker r white drinks 1";
        int[][] days = {{1, 1, 1}, {0, 1, 2}, {0, 0, 3}, {0, 0, 3}};
        for (int n = 1; n <= 4; n++) {
            for (int d = 0; d < 3; d++) {
                int most = n;
                int drinker = d;
                answers(like, "planDays(" + d + ", " + n + ")", days[n - 1][d], x -> x.planDays(drinker, most));
            }
        }
    }

    void promise23_planDaysAreFewestBottlesFirst() {
        // Two bottles of fizzy are fewer than four of white, though the first drinker's days are more.
        String unlike = "lake mice 0;house a north weight 8;drinker p fizzy drinks 2;drinker q white drinks 4";
        answers(unlike, "fizzy", 1, x -> x.planDays(0, 1));
        answers(unlike, "white", 0, x -> x.planDays(1, 1));
    }

    void promise23_planDaysAre0To4OrThereIsNoPlan() {
        String lacking = "lake mice 0;drinker p white drinks 1;house a north weight ";
        for (int n = 1; n <= 4; n++) {
            int days = n;
            answers(lacking + 0, "no days", 0, x -> x.planDays(0, days));
            answers(lacking + 2 * n, "all days", n, x -> x.planDays(0, days));
            answers(lacking + (2 * n + 1), "no PLAN", -2, x -> x.planDays(0, days));
        }
    }

    void promise23_planDaysAreWithoutFeasts() {
        String high = BARE + ";drinker p white drinks 1;feast a week 9 high 4";
        answers(high, "nobody is UNDER", 0, x -> x.planDays(0, 4));
        answers(high, "but the feast is wet", 2, x -> x.feasts(4));
    }

    // ---- Promise 24

    void promise24_planHouseOfADrinkerThatThereIs() {
        never(NO_LAKE, "planHouse", 1, (x, d) -> x.planHouse(d, 1));
        never(BARE, "planHouse", 1, (x, d) -> x.planHouse(d, 1));
        bounded(THREE, "planHouse", 0, 1, 1, (x, d) -> x.planHouse(d, 4));
        bounded(BoundsOfText.full(), "planHouse", 0, 2, 1, (x, d) -> x.planHouse(d, 1));
    }

    void promise24_planHouseFor1To4Days() {
        bounded(THREE, "planHouse, days", 1, 4, 2, (x, n) -> x.planHouse(1, n));
        refused(THREE, "planHouse(1, 0)", 2, x -> x.planHouse(1, 0));
        refused(THREE, "neither", 1, x -> x.planHouse(2, 5));
        refused(NO_LAKE, "no LAKE, no days", 1, x -> x.planHouse(0, 0));
    }

    void promise24_planHouseWithNoDaysOrNoPlan() {
        String lacking = "lake mice 0;drinker p white drinks 1;drinker q fizzy drinks 1;house b north weight 0;house a north weight ";
        answers(lacking + 0, "nobody UNDER", -2, x -> x.planHouse(1, 1));
        answers(lacking + 4, "the other one drinks", -2, x -> x.planHouse(0, 1));
        answers(lacking + 4, "he drinks", 1, x -> x.planHouse(1, 1));
        answers(lacking + 6, "both drink", 1, x -> x.planHouse(0, 1));
        answers(lacking + 7, "no PLAN", -2, x -> x.planHouse(0, 1));
        answers(lacking + 7, "no PLAN", -2, x -> x.planHouse(1, 1));
    }

    void promise24_planHouseIsTheFirst() {
        String five = FIVE + ";drinker p white drinks 1;drinker q white drinks 1;";
        answers(five + "rope c e;rope d e;guest g weight 2 at e", "of a raft the first", 2, x -> x.planHouse(1, 1));
        answers(five + "guest f weight 2 at d;guest g weight 2 at b", "the first drinker at the first", 1, x -> x.planHouse(0, 1));
        answers(five + "guest f weight 2 at d;guest g weight 2 at b", "the second at the second", 3, x -> x.planHouse(1, 1));
        answers(five + "guest f weight 4 at d;guest g weight 2 at b", "fewer days come ahead of the first house", 1,
                x -> x.planHouse(0, 2));
        answers(five + "guest f weight 2 at d;guest g weight 4 at b", "fewer days come ahead of the first house", 3,
                x -> x.planHouse(0, 2));
        answers(five + "guest f weight 2 at e", "the last house", 4, x -> x.planHouse(1, 1));
    }

    // ---- Promise 25

    void promise25_feastsFor1To4Days() {
        never(NO_LAKE, "feasts", 1, (x, n) -> x.feasts(n));
        bounded(THREE, "feasts, days", 1, 4, 2, (x, n) -> x.feasts(n));
        refused(THREE, "feasts(0)", 2, x -> x.feasts(0));
        refused(NO_LAKE, "feasts(5)", 1, x -> x.feasts(5));
    }

    void promise25_feastsWithoutAFeastOrDrinker() {
        answers(BARE, "neither", 0, x -> x.feasts(1));
        answers("lake mice 0;house a north weight 2;drinker p white drinks 1", "no feast", 1, x -> x.feasts(1));
        answers(BARE + ";feast a week 9 high 0", "dry without a drinker", 0, x -> x.feasts(1));
        answers(BARE + ";feast a week 9 high 1", "wet without a drinker", -2, x -> x.feasts(4));
    }

    void promise25_feastsAreDryAtTheirHeight() {
        String white = BARE + ";drinker p white drinks 5;feast a week 9 high ";
        answers(white + 40, "40", 20, x -> x.feasts(4));
        answers(white + 41, "41", -2, x -> x.feasts(4));
        answers(white + 30, "30 in three days", 15, x -> x.feasts(3));
        answers(white + 31, "31 in three days", -2, x -> x.feasts(3));
        answers(white + 0, "0", 0, x -> x.feasts(1));
        answers(white + 1, "1", 5, x -> x.feasts(1));
        answers(BARE + ";drinker p fizzy drinks 9;feast a week 0 high 50", "50 by fizzy", 18, x -> x.feasts(4));
        answers(BARE + ";drinker p fizzy drinks 9;feast a week 0 high 50", "50 by fizzy in a day", -2, x -> x.feasts(1));
    }

    void promise25_feastsInTheirWeeksFromNow() {
        for (int week = 0; week <= 9; week++) {
            String red = BARE + ";drinker p red drinks 1;feast a week " + week + " high ";
            int lift = Math.max(0, 3 - week);
            answers(red + 0, "high 0 in week " + week, 0, x -> x.feasts(4));
            answers(red + Math.max(1, lift), "by one in week " + week, lift == 0 ? -2 : 1, x -> x.feasts(4));
            answers(red + Math.max(1, 4 * lift), "by four in week " + week, lift == 0 ? -2 : 4, x -> x.feasts(4));
            answers(red + (4 * lift + 1), "by none in week " + week, -2, x -> x.feasts(4));
        }
    }

    void promise25_feastsAsCorksThereGoSoft() {
        String red = BARE + ";corks a red 2;drinker p white drinks 1;feast a week ";
        int[] bottles = {0, 1, 2, 3, 3};
        for (int week = 0; week < bottles.length; week++) {
            answers(red + week + " high 6", "6 in week " + week, bottles[week], x -> x.feasts(4));
        }
        answers(red + 9 + " high 6", "6 in week 9", 3, x -> x.feasts(4));
    }

    void promise25_feastsOfARaftAskForItsHeight() {
        String raft = "lake mice 0;house a north weight 0;house b north weight 1;rope a b;drinker p white drinks 1;feast b week 9 high ";
        answers(raft + 3, "7 by 2", 4, x -> x.feasts(4));
        answers(raft + 4, "7 by 2 isn't 4", -2, x -> x.feasts(4));
        answers(raft + 2, "5 by 2", 3, x -> x.feasts(4));
    }

    void promise25_feastsAreAllDryAndNobodyIsUnder() {
        String two = "lake mice 0;house a north weight 2;house b north weight 0;drinker p white drinks 1;drinker q white drinks 1;";
        answers(two + "feast b week 0 high 0", "a is UNDER", 1, x -> x.feasts(4));
        answers(two + "feast b week 0 high 2", "a is UNDER, b is wet", 2, x -> x.feasts(4));
        answers(two + "feast b week 0 high 2;feast b week 1 high 3;feast b week 2 high 4;feast b week 9 high 7", "the highest of four", 5,
                x -> x.feasts(4));
        answers(two + "feast b week 0 high 2;feast b week 1 high 3;feast b week 2 high 4;feast b week 9 high 9", "too high", -2,
                x -> x.feasts(4));
        answers(two + "feast b week 0 high 2", "PLAN is without feasts", 1, x -> x.plan(4));
    }

    // ---- Promise 26

    void promise26_feastHouseOfADrinkerThatThereIs() {
        never(NO_LAKE, "feastHouse", 1, (x, d) -> x.feastHouse(d, 1));
        never(BARE, "feastHouse", 1, (x, d) -> x.feastHouse(d, 1));
        bounded(THREE, "feastHouse", 0, 1, 1, (x, d) -> x.feastHouse(d, 4));
        bounded(BoundsOfText.full(), "feastHouse", 0, 2, 1, (x, d) -> x.feastHouse(d, 1));
    }

    void promise26_feastHouseFor1To4Days() {
        bounded(THREE, "feastHouse, days", 1, 4, 2, (x, n) -> x.feastHouse(1, n));
        refused(THREE, "feastHouse(1, 0)", 2, x -> x.feastHouse(1, 0));
        refused(THREE, "neither", 1, x -> x.feastHouse(2, 5));
        refused(NO_LAKE, "no LAKE, no days", 1, x -> x.feastHouse(0, 0));
    }

    void promise26_feastHouseWithNoDaysOrNoPlan() {
        String high = "lake mice 0;house b north weight 0;house a north weight 0;drinker p white drinks 1;drinker q fizzy drinks 1;"
                + "feast a week 9 high ";
        answers(high + 0, "dry", -2, x -> x.feastHouse(1, 1));
        answers(high + 4, "the other one drinks", -2, x -> x.feastHouse(0, 1));
        answers(high + 4, "he drinks", 1, x -> x.feastHouse(1, 1));
        answers(high + 6, "both drink", 1, x -> x.feastHouse(0, 1));
        answers(high + 7, "no PLAN", -2, x -> x.feastHouse(0, 1));
        answers(high + 7, "no PLAN", -2, x -> x.feastHouse(1, 1));
        answers(high + 4, "by PLAN nobody drinks", -2, x -> x.planHouse(1, 1));
    }

    void promise26_feastHouseIsTheFirst() {
        String five = FIVE + ";drinker p white drinks 1;drinker q white drinks 1;";
        answers(five + "rope c e;feast e week 9 high 1", "of a raft the first", 2, x -> x.feastHouse(1, 1));
        answers(five + "feast d week 9 high 2;feast b week 0 high 2", "the first drinker at the first", 1, x -> x.feastHouse(0, 1));
        answers(five + "feast d week 9 high 2;feast b week 0 high 2", "the second at the second", 3, x -> x.feastHouse(1, 1));
        answers(five + "feast e week 0 high 2", "the last house", 4, x -> x.feastHouse(1, 1));
    }
}
