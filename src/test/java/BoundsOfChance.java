/** Promises 27 to 42: hoarders, king and village, mice by chance, weeks by draws. */
final class BoundsOfChance extends Bounds {
    private static final String THREE = "lake mice 50;house a north weight 3;house b south weight 4;house c north weight 5;rope a b;rope b c;"
            + "corks a red 1;drinker p white drinks 4;drinker q fizzy drinks 2;gave p a 1;seen b below 3";
    private static final String DRINKERS = BARE + ";drinker p white drinks 1;drinker q fizzy drinks 1;drinker r red drinks 1";
    /** White of p, fizzy of q and red of r lift 2, 4 and 3. */
    private static final String GAVE = DRINKERS + ";gave p a 1;gave q a 1;gave r a 1";
    /** One of p and q gave, but not both. */
    private static final String EITHER = BARE + ";drinker p white drinks 1;drinker q white drinks 1;gave p a 1;gave q a 1;seen a over 2";
    private static final String FIVE = "lake mice 0;house a north weight 0;house b north weight 0;house c north weight 0;"
            + "house d north weight 0;house e north weight 0";
    private static final String SOUTH = "lake mice 50;house a south weight 0;house b north weight 1;corks b white 1;corks a white 1";

    BoundsOfChance(Due due) {
        super(due);
    }

    private void sets(String text, int... sets) {
        answers(text, "sets()", sets.length, x -> x.sets());
        for (int i = 0; i < sets.length; i++) {
            int number = i;
            answers(text, "setAt(" + i + ")", sets[i], x -> x.setAt(number));
        }
        refused(text, "setAt(" + sets.length + ")", 1, x -> x.setAt(sets.length));
        refused(text, "setAt(-1)", 1, x -> x.setAt(-1));
    }

    // ---- Promise 27

    void promise27_setsNeedALake() {
        refused(NO_LAKE, "sets()", 1, x -> x.sets());
    }

    void promise27_setsAre0To8() {
        sets(GAVE + ";seen a over 1");
        sets(GAVE + ";seen a over 9", 0);
        sets(DRINKERS, 0, 1, 2, 3, 4, 5, 6, 7);
        sets(GAVE, 0, 1, 2, 3, 4, 5, 6, 7);
    }

    void promise27_setsWithoutADrinker() {
        sets(BARE, 0);
        sets(BARE + ";seen a over 0", 0);
        sets(BARE + ";seen a over 1");
    }

    void promise27_setsOfThoseWhoGaveNothingTheOthersAll() {
        int[] lifts = {9, 7, 5, 3, 6, 4, 2, 0};
        for (int set = 0; set < 8; set++) {
            sets(GAVE + ";seen a over " + lifts[set], set);
        }
        sets(DRINKERS + ";gave p a 1;gave p a 1;seen a over 2");
        sets(DRINKERS + ";gave p a 1;gave p a 1;seen a over 4", 0, 2, 4, 6);
        sets(DRINKERS + ";gave p a 1;gave p a 1;seen a over 0", 1, 3, 5, 7);
    }

    void promise27_setsByWhatWasSeenOverJustSo() {
        String high = ";corks a red 30;corks a fizzy 30;seen a over 200";
        sets("lake mice 0;house a north weight 10" + high, 0);
        sets("lake mice 0;house a north weight 9" + high);
        sets("lake mice 0;house a north weight 11" + high);
        sets("lake mice 0;house a north weight 1;seen a over 0");
    }

    void promise27_setsByWhatWasSeenBelow() {
        String low = "lake mice 0;house a north weight 99;guest f weight 50 at a;guest g weight 50 at a;guest h weight ";
        sets(low + "1 at a;seen a below 200", 0);
        sets(low + "2 at a;seen a below 200");
        sets(low + "1 at a;seen a below 199");
        sets("lake mice 0;house a north weight 1;seen a below 1", 0);
        sets(BARE + ";seen a below 1");
        sets(BARE + ";corks a soft 1;seen a below 1");
        // -7 by 2 is -4.
        sets("lake mice 0;house a north weight 7;house b north weight 0;rope a b;seen b below 4;seen a below 4", 0);
    }

    void promise27_setsOfTheLakeAsToldAtFirst() {
        CorkStreet x = made(GAVE + ";house b north weight 0;rope a b;guest g weight 1 at a;seen a over 4", y -> {
            y.cut(0);
            y.move(0, 1);
            y.drink(0, 0);
            y.week();
        });
        answers(x, "sets()", 1, y -> y.sets());
        answers(x, "setAt(0)", 0, y -> y.setAt(0));
    }

    // ---- Promise 28

    void promise28_setAtOfASetThatThereIs() {
        never(NO_LAKE, "setAt", 1, (x, i) -> x.setAt(i));
        never(BARE + ";seen a over 1", "setAt", 1, (x, i) -> x.setAt(i));
        bounded(BARE, "setAt", 0, 0, 1, (x, i) -> x.setAt(i));
        bounded(DRINKERS, "setAt", 0, 7, 1, (x, i) -> x.setAt(i));
    }

    // ---- Promises 29 and 30

    void promise29_couldBeNobodyOrAll() {
        refused(NO_LAKE, "could()", 1, x -> x.could());
        answers(GAVE + ";seen a over 1", "no set", 0, x -> x.could());
        answers(BARE, "no drinker", 0, x -> x.could());
        answers(GAVE + ";seen a over 9", "the empty set alone", 0, x -> x.could());
        answers(GAVE + ";seen a over 0", "all", 7, x -> x.could());
        answers(GAVE, "all sets", 7, x -> x.could());
        answers(GAVE + ";seen a over 5", "q alone", 2, x -> x.could());
    }

    void promise30_surelyAreNobodyOrAll() {
        refused(NO_LAKE, "surely()", 1, x -> x.surely());
        answers(GAVE + ";seen a over 1", "0 without a set", 0, x -> x.surely());
        answers(BARE, "no drinker", 0, x -> x.surely());
        answers(GAVE + ";seen a over 9", "the empty set alone", 0, x -> x.surely());
        answers(GAVE + ";seen a over 0", "all", 7, x -> x.surely());
        answers(GAVE, "all sets", 0, x -> x.surely());
        answers(GAVE + ";seen a over 5", "q alone", 2, x -> x.surely());
        answers(DRINKERS + ";gave p a 1;seen a over 0", "p, whatever the others did", 1, x -> x.surely());
    }

    void promise30_surelyIsNobodyBehindALakeThatHadASet() {
        CorkStreet x = made(GAVE + ";seen a over 0");
        due.is("all", x.surely(), 7);
        due.is("a LAKE without a set", Due.lake(x, GAVE + ";seen a over 1"), 1);
        answers(x, "0 without a set", 0, y -> y.surely());
        answers(x, "nobody of no set", 0, y -> y.could());
    }

    void promise30_surelyIsNobodyOfTwoWhoMayBoth() {
        answers(EITHER, "p or q", 0, x -> x.surely());
        answers(EITHER, "p or q", 3, x -> x.could());
        sets(EITHER, 1, 2);
    }

    // ---- Promises 31 and 32

    void promise31_askNeedsASetAndADrinker() {
        refused(NO_LAKE, "ask()", 1, x -> x.ask());
        answers(GAVE + ";seen a over 1", "no set", -2, x -> x.ask());
        answers(BARE, "no drinker", -2, x -> x.ask());
        answers(BARE + ";seen a over 1", "neither", -2, x -> x.ask());
    }

    void promise31_askTheFirstByWhomFewestAreLeft() {
        answers(DRINKERS, "all alike", 0, x -> x.ask());
        answers(GAVE + ";seen a over 9", "one set", 0, x -> x.ask());
        answers(DRINKERS + ";gave p a 1;gave q a 1;seen a over 6", "only of the last something is left", 2, x -> x.ask());
        answers(DRINKERS + ";gave p a 1;gave r a 1;seen a over 2", "only of the second", 1, x -> x.ask());
        answers(DRINKERS + ";gave p a 1;seen a over 2", "of the second and the last", 1, x -> x.ask());
        answers(BARE + ";drinker p red drinks 1", "one drinker", 0, x -> x.ask());
        answers(EITHER, "by both of two alike", 0, x -> x.ask());
    }

    void promise32_askLeavesNeedsASetAndADrinker() {
        refused(NO_LAKE, "askLeaves()", 1, x -> x.askLeaves());
        answers(GAVE + ";seen a over 1", "no set", -2, x -> x.askLeaves());
        answers(BARE, "no drinker", -2, x -> x.askLeaves());
        answers(BARE + ";seen a over 1", "neither", -2, x -> x.askLeaves());
    }

    void promise32_askLeaves1To4() {
        answers(DRINKERS, "of eight", 4, x -> x.askLeaves());
        answers(DRINKERS + ";gave p a 1;seen a over 2", "of four", 2, x -> x.askLeaves());
        answers(DRINKERS + ";gave p a 1;gave q a 1;seen a over 6", "of two", 1, x -> x.askLeaves());
        answers(GAVE + ";seen a over 9", "of one", 1, x -> x.askLeaves());
        answers(GAVE + ";seen a over 0", "of one, the full set", 1, x -> x.askLeaves());
        // Of p, q and r just one gave: he who did, or two who didn't.
        answers(BARE + ";drinker p red drinks 1;drinker q red drinks 1;drinker r red drinks 1;gave p a 1;gave q a 1;gave r a 1;seen a over 3",
                "of three", 2, x -> x.askLeaves());
    }

    // ---- Promise 33

    void promise33_judgeNeedsALake() {
        refused(NO_LAKE, "judge()", 1, x -> x.judge());
    }

    void promise33_judgeTellsTheFirstThatIsNotSo() {
        answers(BARE, "nothing seen", -2, x -> x.judge());
        String all = FIVE + ";drinker p red drinks 1;gave p e 1;seen d over 0;seen c over 0;seen b over 0;seen a over 0;seen e ";
        answers(all + "over 3", "all so", -2, x -> x.judge());
        answers(all + "over 2", "the last of five", 4, x -> x.judge());
        answers(all + "over 4", "the last of five", 4, x -> x.judge());
        answers(all + "below 3", "the last of five", 4, x -> x.judge());
        answers(all.replace("seen d over 0", "seen d over 1") + "over 2", "the first of five", 0, x -> x.judge());
        answers(made(all + "over 3", x -> x.week()), "as told at first", -2, x -> x.judge());
    }

    // ---- Promises 34 and 35

    void promise34_valueOf0To4Moves() {
        never(NO_LAKE, "value", 1, (x, n) -> x.value(n));
        refused(NO_LAKE, "value(5)", 1, x -> x.value(5));
        bounded(THREE, "value, moves", 0, 4, 2, (x, n) -> x.value(n));
        bounded(BARE, "value, moves", 0, 4, 2, (x, n) -> x.value(n));
    }

    void promise34_valueIs0To5() {
        for (int n = 0; n <= 4; n++) {
            int moves = n;
            answers(FIVE.replace("weight 0", "weight 5"), "all stay UNDER", 0, x -> x.value(moves));
            answers(FIVE.replace("weight 0", "weight 5") + ";rope a b;rope b c;rope c d;rope d e;rope e a", "a ring stays UNDER", 0,
                    x -> x.value(moves));
            answers(FIVE + ";rope a b;rope b c;rope c d;rope d e;rope e a", "nobody goes UNDER", 5, x -> x.value(moves));
            answers("lake mice 0;house a north weight 3", "one house", n < 4 ? 0 : 1, x -> x.value(moves));
            answers("lake mice 0;house a north weight 2", "one house", n < 2 ? 0 : 1, x -> x.value(moves));
        }
    }

    void promise34_valueByTurnsTheKingFirst() {
        // A floats by its rope alone; the king cuts it, and the village needs two corks.
        String raft = "lake mice 0;house a north weight 4;house b north weight 0;house c north weight 0;rope b c;rope a b;corks b soft 5;"
                + "corks c soft 5";
        int[] values = {3, 2, 2, 2, 3};
        int[] heavier = {3, 2, 2, 2, 2};
        for (int n = 0; n <= 4; n++) {
            int moves = n;
            answers(raft, n + " moves", values[n], x -> x.value(moves));
            answers(raft.replace("weight 4", "weight 5"), n + " moves", heavier[n], x -> x.value(moves));
        }
        answers(made(raft, x -> x.cut(1)), "the rope is cut NOW", 2, x -> x.value(0));
    }

    void promise34_valueByOneCorkOfTheVillageEachTime() {
        // Each house comes up by one cork, but by its own alone.
        int[] values = {0, 0, 1, 1, 2};
        int[] heavier = {0, 0, 0, 0, 1};
        for (int n = 0; n <= 4; n++) {
            int moves = n;
            answers(FIVE.replace("weight 0", "weight 2"), n + " moves", values[n], x -> x.value(moves));
            answers(FIVE.replace("weight 0", "weight 3"), n + " moves", heavier[n], x -> x.value(moves));
            answers(FIVE.replace("weight 0", "weight 2") + ";rope d e", "a rope doesn't help", values[n], x -> x.value(moves));
        }
    }

    void promise34_valueWhereTheKingCutsTwice() {
        String star = "lake mice 0;house a north weight 9;house b north weight 0;house c north weight 9;rope a b;rope c b;corks b soft 18";
        int[] values = {3, 2, 2, 1, 1};
        for (int n = 0; n <= 4; n++) {
            int moves = n;
            answers(star, n + " moves", values[n], x -> x.value(moves));
        }
    }

    void promise34_valueWhereTheVillageHelpsByItsLastMove() {
        // As a RAFT of -1 both come up by a cork; cut, a stays UNDER.
        String raft = "lake mice 0;house a north weight 5;house b north weight 0;rope a b;corks b soft 4";
        int[] values = {0, 0, 1, 1, 1};
        for (int n = 0; n <= 4; n++) {
            int moves = n;
            answers(raft, n + " moves", values[n], x -> x.value(moves));
        }
    }

    void promise35_kingCutsIn1To4Moves() {
        never(NO_LAKE, "kingCuts", 1, (x, n) -> x.kingCuts(n));
        refused(NO_LAKE, "kingCuts(5)", 1, x -> x.kingCuts(5));
        bounded(THREE, "kingCuts, moves", 1, 4, 2, (x, n) -> x.kingCuts(n));
        refused(THREE, "kingCuts(0)", 2, x -> x.kingCuts(0));
    }

    void promise35_kingCutsNone() {
        String raft = "lake mice 0;house a north weight 2;house b north weight 0;rope a b;corks b white 1";
        for (int n = 1; n <= 4; n++) {
            int moves = n;
            answers(FIVE, "no ropes", -2, x -> x.kingCuts(moves));
            answers(FIVE + ";rope a b", "none is as good as any", -2, x -> x.kingCuts(moves));
            answers(made(raft, x -> x.cut(0)), "none is tied", -2, x -> x.kingCuts(moves));
            answers(raft, "he cuts a off, where the village can't help it", n == 1 ? 0 : -2, x -> x.kingCuts(moves));
        }
        // To cut would help the village.
        answers("lake mice 0;house a north weight 7;house b south weight 0;rope a b", "none is better", -2, x -> x.kingCuts(1));
    }

    void promise35_kingCutsByWhatComesBehindIt() {
        String raft = "lake mice 0;house a north weight 5;house b north weight 0;rope a b;corks b soft 4";
        int[] cuts = {-2, 0, -2, -2};
        String star = "lake mice 0;house a north weight 9;house b north weight 0;house c north weight 9;rope a b;rope c b;corks b soft 18";
        for (int n = 1; n <= 4; n++) {
            int moves = n;
            answers(raft, n + " moves", cuts[n - 1], x -> x.kingCuts(moves));
            answers(star, n + " moves", 0, x -> x.kingCuts(moves));
        }
    }

    void promise35_kingCutsTheFirstOfLikeOnes() {
        String star = "lake mice 0;house a north weight 9;house b north weight 0;house c north weight 9;house d north weight 9;"
                + "rope a b;rope c b;rope d b;corks b soft 27";
        answers(star, "the first", 0, x -> x.kingCuts(1));
        answers(made(star, x -> x.cut(0)), "the first that is tied", 1, x -> x.kingCuts(1));
        answers(made(star, x -> {
            x.cut(0);
            x.cut(1);
        }), "the last", 2, x -> x.kingCuts(1));
        answers(star.replace("rope a b;rope c b;rope d b", "rope a d;rope d b;rope c b"), "two houses at once", 1, x -> x.kingCuts(1));
    }

    // ---- Promises 36 to 39

    private void odds(String text, int house, String what, int n, long upper, long lower) {
        answers(text, what + "(" + n + ") upper", upper, x -> share(x, what, house, n, false));
        answers(text, what + "(" + n + ") lower", lower, x -> share(x, what, house, n, true));
    }

    private static long share(CorkStreet x, String what, int house, int n, boolean lower) {
        switch (what) {
            case "dry":
                return x.dry(house, n, lower);
            case "mean":
                return x.mean(house, n, lower);
            default:
                return x.losses(house, n, lower);
        }
    }

    private void oddsOfHouses(String what) {
        for (boolean lower : new boolean[] {false, true}) {
            never(NO_LAKE, what, 1, (x, h) -> share(x, what, h, 0, lower));
            bounded(FIVE, what, 0, 4, 1, (x, h) -> share(x, what, h, 0, lower));
            bounded(BARE, what, 0, 0, 1, (x, h) -> share(x, what, h, 4, lower));
            refused(SOUTH, what + " of a house that isn't there", 1, x -> share(x, what, 2, 0, lower));
        }
    }

    private void oddsOfWeeks(String what) {
        for (boolean lower : new boolean[] {false, true}) {
            bounded(SOUTH, what + ", weeks", 0, 4, 2, (x, n) -> share(x, what, 1, n, lower));
            bounded(BARE, what + ", weeks", 0, 4, 2, (x, n) -> share(x, what, 0, n, lower));
        }
    }

    private void oddsOfSouth(String what) {
        for (boolean lower : new boolean[] {false, true}) {
            for (int n = 0; n <= 4; n++) {
                int weeks = n;
                refused(SOUTH, what + " of a south house", 5, x -> share(x, what, 0, weeks, lower));
            }
            refused(SOUTH, what + ", south, no weeks", 2, x -> share(x, what, 0, 5, lower));
            refused(SOUTH, what + ", south, no weeks", 2, x -> share(x, what, 0, -1, lower));
            refused(SOUTH, what + ", no house, no weeks", 1, x -> share(x, what, 2, 5, lower));
            refused(NO_LAKE, what + ", no LAKE, no weeks", 1, x -> share(x, what, 0, 5, lower));
        }
    }

    void promise36_dryOfAHouseThatThereIs() {
        oddsOfHouses("dry");
    }

    void promise36_dryIn0To4Weeks() {
        oddsOfWeeks("dry");
    }

    void promise36_dryOfASouthHouse() {
        oddsOfSouth("dry");
    }

    void promise36_dryIsALeastShare() {
        long[] lower = {1, 2, 4, 8, 16};
        for (int n = 0; n <= 4; n++) {
            odds(SOUTH, 1, "dry", n, 1, lower[n]);
            odds(SOUTH.replace("mice 50", "mice 0"), 1, "dry", n, 1, 1);
            odds(SOUTH.replace("mice 50", "mice 100"), 1, "dry", n, n == 0 ? 1 : 0, 1);
            odds(SOUTH.replace("weight 1", "weight 3"), 1, "dry", n, 0, 1);
            odds(SOUTH.replace("weight 1", "weight 0"), 1, "dry", n, 1, 1);
        }
        odds(SOUTH.replace("mice 50", "mice 1"), 1, "dry", 4, 96059601, 100000000);
        odds(SOUTH.replace("mice 50", "mice 99"), 1, "dry", 4, 1, 100000000);
        odds(SOUTH.replace("mice 50", "mice 99"), 1, "dry", 1, 1, 100);
        odds(SOUTH.replace("mice 50", "mice 75"), 1, "dry", 1, 1, 4);
    }

    void promise36_dryIsForItselfWithItsGuests() {
        String roped = SOUTH.replace("corks a white 1", "corks a white 30") + ";rope a b";
        odds(roped, 1, "dry", 1, 1, 2);
        odds(roped + ";guest g weight 1 at b", 1, "dry", 0, 1, 1);
        odds(roped + ";guest g weight 2 at b", 1, "dry", 0, 0, 1);
        odds(roped + ";guest g weight 2 at a", 1, "dry", 0, 1, 1);
    }

    void promise37_meanOfAHouseThatThereIs() {
        oddsOfHouses("mean");
    }

    void promise37_meanIn0To4Weeks() {
        oddsOfWeeks("mean");
    }

    void promise37_meanOfASouthHouse() {
        oddsOfSouth("mean");
    }

    void promise37_meanIsALeastShareAnd1000() {
        // 2 by the share of the cork that stays, less 1.
        long[][] shares = {{1001, 1}, {1000, 1}, {1999, 2}, {3997, 4}, {7993, 8}};
        for (int n = 0; n <= 4; n++) {
            odds(SOUTH, 1, "mean", n, shares[n][0], shares[n][1]);
            odds(SOUTH.replace("mice 50", "mice 0"), 1, "mean", n, 1001, 1);
            odds(SOUTH.replace("mice 50", "mice 100"), 1, "mean", n, n == 0 ? 1001 : 999, 1);
        }
        odds(SOUTH.replace("mice 50", "mice 1").replace("weight 1", "weight 0"), 1, "mean", 4, 50096059601L, 50000000);
        odds("lake mice 0;house a north weight 99;guest f weight 50 at a;guest g weight 50 at a;guest h weight 50 at a", 0, "mean", 4, 751, 1);
    }

    void promise37_meanAsCorksGoSoft() {
        String red = "lake mice 0;house a north weight 0;corks a red 30;corks a white 1";
        int[] heights = {1092, 1062, 1032, 1002, 1002};
        for (int n = 0; n <= 4; n++) {
            odds(red, 0, "mean", n, heights[n], 1);
            odds(red.replace("mice 0;house a north weight 0", "mice 0;house a north weight 32"), 0, "dry", n, n <= 2 ? 1 : 0, 1);
        }
    }

    void promise38_safestIn0To4Weeks() {
        never(NO_LAKE, "safest", 1, (x, n) -> x.safest(n));
        refused(NO_LAKE, "safest(5)", 1, x -> x.safest(5));
        bounded(SOUTH, "safest, weeks", 0, 4, 2, (x, n) -> x.safest(n));
        bounded("lake mice 0;house a south weight 0", "safest, weeks", 0, 4, 2, (x, n) -> x.safest(n));
    }

    void promise38_safestIsTheFirstNorthOne() {
        String north = "lake mice 50;house a south weight 0;house b north weight 1;house c north weight 1;house d north weight 1;"
                + "house e south weight 0;corks b white 1;corks c white 1;corks d white 2";
        answers("lake mice 0;house a south weight 0;house b south weight 0", "no north one", -2, x -> x.safest(0));
        answers("lake mice 0;house a south weight 0;house b south weight 0", "no north one", -2, x -> x.safest(4));
        answers(north, "all dry NOW", 1, x -> x.safest(0));
        for (int n = 1; n <= 4; n++) {
            int weeks = n;
            // In a week d loses one of two at most.
            answers(north, "in " + n + " weeks", 3, x -> x.safest(weeks));
            answers(north.replace("weight 1", "weight 9"), "all surely UNDER", 1, x -> x.safest(weeks));
        }
        answers(north.replace("corks d white 2", "corks d white 1"), "all alike", 1, x -> x.safest(4));
        answers(north.replace("corks b white 1", "corks b white 3"), "d is less likely dry in 4 weeks than b", 1, x -> x.safest(4));
        answers(north.replace("corks c white 1", "corks c white 30"), "d is less likely dry in 4 weeks than c", 2, x -> x.safest(4));
        answers(BARE, "the only house", 0, x -> x.safest(4));
        answers(FIVE, "the first of five", 0, x -> x.safest(4));
        answers(FIVE.replace("weight 0", "weight 1") + ";corks e white 1", "the last of five", 4, x -> x.safest(4));
    }

    void promise39_lossesOfAHouseThatThereIs() {
        oddsOfHouses("losses");
    }

    void promise39_lossesIn0To4Weeks() {
        oddsOfWeeks("losses");
    }

    void promise39_lossesOfASouthHouse() {
        oddsOfSouth("losses");
    }

    void promise39_lossesAreALeastShare() {
        long[][] one = {{0, 1}, {1, 2}, {3, 4}, {7, 8}, {15, 16}};
        long[][] many = {{0, 1}, {1, 2}, {1, 1}, {3, 2}, {2, 1}};
        for (int n = 0; n <= 4; n++) {
            odds(SOUTH, 1, "losses", n, one[n][0], one[n][1]);
            odds(SOUTH.replace("white 1", "white 9"), 1, "losses", n, many[n][0], many[n][1]);
            odds(SOUTH.replace("mice 50", "mice 0"), 1, "losses", n, 0, 1);
            odds(SOUTH.replace("mice 50", "mice 100"), 1, "losses", n, n == 0 ? 0 : 1, 1);
            odds(SOUTH.replace("mice 50", "mice 100").replace("white 1", "white 9"), 1, "losses", n, n, 1);
            odds(BARE.replace("mice 0", "mice 100"), 0, "losses", n, 0, 1);
        }
        // Corks that are gone by themselves don't go by MICE.
        odds(BARE.replace("mice 0", "mice 100") + ";corks a soft 9", 0, "losses", 4, 0, 1);
        odds(BARE.replace("mice 0", "mice 100") + ";corks a red 9", 0, "losses", 4, 2, 1);
        odds(SOUTH.replace("mice 50", "mice 1"), 1, "losses", 4, 3940399, 100000000);
    }

    // ---- Promises 40 to 42

    /** From 65,536 the SEED stays as it is, and so the DRAW is always 36 in a hundred. */
    private static final String ALWAYS_36 = "house a north weight 0;house b south weight 0;corks a white 30;corks b white 30";

    void promise40_weeksOfAHouseThatThereIs() {
        never(NO_LAKE, "weeks", 1, (x, h) -> x.weeks(h, 0, 0));
        bounded(THREE, "weeks", 0, 2, 1, (x, h) -> x.weeks(h, 65536, 20));
        refused(THREE, "no house, no SEED, no weeks", 1, x -> x.weeks(3, 65537, 21));
        refused(NO_LAKE, "no LAKE, no SEED, no weeks", 1, x -> x.weeks(0, -1, -1));
    }

    void promise40_weeksAre0To20() {
        bounded(THREE, "weeks, weeks", 0, 20, 2, (x, n) -> x.weeks(0, 0, n));
        answers("lake mice 37;" + ALWAYS_36, "in no weeks", 1060, x -> x.weeks(0, 65536, 0));
        answers("lake mice 37;" + ALWAYS_36, "in 20 weeks", 1020, x -> x.weeks(0, 65536, 20));
        answers("lake mice 37;" + ALWAYS_36, "a south one in 20 weeks", 1060, x -> x.weeks(1, 65536, 20));
    }

    void promise40_weeksByASeedFrom0To65536() {
        bounded(THREE, "weeks, SEED", 0, 65536, 2, (x, seed) -> x.weeks(0, seed, 1));
        bounded(THREE, "weeks, SEED", 0, 65536, 2, (x, seed) -> x.weeks(0, seed, 0));
    }

    void promise40_weeksByADrawBelowTheMice() {
        answers("lake mice 36;" + ALWAYS_36, "36 isn't below 36", 1060, x -> x.weeks(0, 65536, 20));
        answers("lake mice 37;" + ALWAYS_36, "36 is below 37", 1058, x -> x.weeks(0, 65536, 1));
        // From 0 the SEED becomes 74, from 45,438 it becomes 0.
        answers("lake mice 74;" + ALWAYS_36, "74 isn't below 74", 1060, x -> x.weeks(0, 0, 1));
        answers("lake mice 75;" + ALWAYS_36, "74 is below 75", 1058, x -> x.weeks(0, 0, 1));
        answers("lake mice 0;" + ALWAYS_36, "0 isn't below 0", 1060, x -> x.weeks(0, 45438, 1));
        answers("lake mice 1;" + ALWAYS_36, "0 is below 1", 1058, x -> x.weeks(0, 45438, 1));
        answers("lake mice 100;" + ALWAYS_36, "all are below 100", 1020, x -> x.weeks(0, 0, 20));
    }

    void promise40_weeksByDrawsThatWrapAround() {
        // 872 becomes 65,474, 873 becomes 65,549 less 65,537.
        answers("lake mice 74;" + ALWAYS_36, "74 of 65,474", 1060, x -> x.weeks(0, 872, 1));
        answers("lake mice 75;" + ALWAYS_36, "74 of 65,474", 1058, x -> x.weeks(0, 872, 1));
        answers("lake mice 12;" + ALWAYS_36, "12", 1060, x -> x.weeks(0, 873, 1));
        answers("lake mice 13;" + ALWAYS_36, "12", 1058, x -> x.weeks(0, 873, 1));
    }

    void promise40_weeksDrawForEachNorthHouseAlone() {
        // From 0: 74, then 5,624, so 24 in a hundred.
        String two = "lake mice 25;house a north weight 0;house b north weight 0;corks b white 1";
        answers(two, "the second draw is b's, though a has no cork", 1000, x -> x.weeks(1, 0, 1));
        answers(two.replace("a north", "a south"), "the first draw is b's", 1002, x -> x.weeks(1, 0, 1));
        answers(two.replace("mice 25", "mice 24"), "24 isn't below 24", 1002, x -> x.weeks(1, 0, 1));
    }

    void promise41_eatenNeedsALake() {
        never(NO_LAKE, "eaten", 1, (x, n) -> x.eaten(0, n));
        refused(NO_LAKE, "no LAKE, no SEED, no weeks", 1, x -> x.eaten(65537, 21));
    }

    void promise41_eatenIn0To20Weeks() {
        bounded(THREE, "eaten, weeks", 0, 20, 2, (x, n) -> x.eaten(0, n));
        for (int n : new int[] {0, 1, 19, 20}) {
            answers("lake mice 37;" + ALWAYS_36, "in " + n + " weeks", n, x -> x.eaten(65536, n));
        }
    }

    void promise41_eatenByASeedFrom0To65536() {
        bounded(THREE, "eaten, SEED", 0, 65536, 2, (x, seed) -> x.eaten(seed, 1));
        bounded(THREE, "eaten, SEED", 0, 65536, 2, (x, seed) -> x.eaten(seed, 0));
    }

    void promise41_eatenAreNoneOrAllThatThereAre() {
        answers("lake mice 0;" + ALWAYS_36, "no mice", 0, x -> x.eaten(0, 20));
        answers("lake mice 100;house a north weight 0;corks a white 3", "no more than there are", 3, x -> x.eaten(0, 20));
        answers("lake mice 100;house a north weight 0;corks a soft 30", "none that are gone by themselves", 0, x -> x.eaten(0, 20));
        answers("lake mice 100;house a south weight 0;corks a white 3", "none of a south house", 0, x -> x.eaten(0, 20));
        answers(FIVE.replace("mice 0", "mice 100") + ";corks a white 30;corks b white 30;corks c white 30;corks d white 30;corks e white 30",
                "five houses, 20 weeks", 100, x -> x.eaten(7, 20));
    }

    void promise42_sunkAtNeedsALake() {
        never(NO_LAKE, "sunkAt", 1, (x, n) -> x.sunkAt(0, n));
        refused(NO_LAKE, "no LAKE, no SEED, no weeks", 1, x -> x.sunkAt(65537, 21));
    }

    void promise42_sunkAtIn0To20Weeks() {
        bounded(THREE, "sunkAt, weeks", 0, 20, 2, (x, n) -> x.sunkAt(0, n));
    }

    void promise42_sunkAtByASeedFrom0To65536() {
        bounded(THREE, "sunkAt, SEED", 0, 65536, 2, (x, seed) -> x.sunkAt(seed, 1));
        bounded(THREE, "sunkAt, SEED", 0, 65536, 2, (x, seed) -> x.sunkAt(seed, 0));
    }

    void promise42_sunkAt0ToNOrNever() {
        String sinking = "lake mice 100;house b south weight 0;house a north weight ";
        answers(sinking + "1", "NOW", 0, x -> x.sunkAt(0, 0));
        answers(sinking + "1", "NOW, whatever comes", 0, x -> x.sunkAt(0, 20));
        // A cork goes each week: behind 20 weeks 10 are left of 30.
        answers(sinking + "21;corks a white 30", "behind the last week", 20, x -> x.sunkAt(0, 20));
        answers(sinking + "20;corks a white 30", "behind none", -2, x -> x.sunkAt(0, 20));
        answers(sinking + "21;corks a white 30", "behind none of 19", -2, x -> x.sunkAt(0, 19));
        answers(sinking + "59;corks a white 30", "behind the first", 1, x -> x.sunkAt(0, 1));
        answers(sinking + "59;corks a white 30", "not NOW", -2, x -> x.sunkAt(0, 0));
        answers("lake mice 0;house a north weight 0;corks a red 1", "0 isn't UNDER", -2, x -> x.sunkAt(0, 20));
    }
}
