/** Promises 6 to 17: what is NOW, and weeks to come without MICE. */
final class BoundsOfNow extends Bounds {
    private static final String THREE = "lake mice 100;house a north weight 3;house b south weight 4;house c north weight 5;rope b a;"
            + "rope c b;corks a red 2;corks b white 3;corks c stale 1;guest f weight 1 at a;guest g weight 2 at c";
    private static final String FIVE = "lake mice 0;house a north weight 0;house b north weight 0;house c north weight 0;"
            + "house d north weight 0;house e north weight 0";
    private static final String RING = FIVE + ";rope a b;rope c b;rope c d;rope e d;rope a e";
    /** Five houses of five weights: -1 to -5. */
    private static final String DEEP = "lake mice 0;house a north weight 1;house b north weight 2;house c north weight 3;"
            + "house d north weight 4;house e north weight 5";

    BoundsOfNow(Due due) {
        super(due);
    }

    // ---- Promise 6

    void promise06_houseIsOneThatThereIs() {
        never(NO_LAKE, "house", 1, (x, h) -> x.house(h, 0));
        bounded(BARE, "house", 0, 0, 1, (x, h) -> x.house(h, 0));
        bounded(THREE, "house", 0, 2, 1, (x, h) -> x.house(h, 0));
        bounded(FIVE, "house", 0, 4, 1, (x, h) -> x.house(h, 0));
    }

    void promise06_houseTells0To5() {
        for (int h = 0; h < 3; h++) {
            int house = h;
            bounded(THREE, "house, what", 0, 5, 1, (x, what) -> x.house(house, what));
        }
        refused(THREE, "neither", 1, x -> x.house(3, 6));
    }

    void promise06_houseTellsEach() {
        // Lift above weights: 6 - 4, 6 - 4, 2 - 7: -1 by 3.
        int[][] told = {{0, 4, 6, 999, 7, 1}, {1, 4, 6, 999, 7, 0}, {0, 7, 2, 999, 7, 2}};
        for (int h = 0; h < 3; h++) {
            for (int what = 0; what <= 5; what++) {
                int house = h;
                int question = what;
                answers(THREE, "house(" + h + ", " + what + ")", told[h][what], x -> x.house(house, question));
            }
        }
    }

    void promise06_houseWithNothing() {
        int[] told = {0, 0, 0, 1000, 1, 0};
        for (int what = 0; what <= 5; what++) {
            int question = what;
            answers(BARE, "house(0, " + what + ")", told[what], x -> x.house(0, question));
        }
    }

    void promise06_houseWithAll() {
        String full = BoundsOfText.full();
        int[] told = {0, 249, 600, 1279, 31, 7};
        for (int what = 0; what <= 5; what++) {
            int question = what;
            answers(full, "house(0, " + what + ")", told[what], x -> x.house(0, question));
        }
        answers(full, "its guests aren't at the last", 0, x -> x.house(4, 5));
    }

    void promise06_houseIsLowestWhereAllIsHeavy() {
        // Five houses of 99, a guest of 50 three times on one alone.
        String heavy = FIVE.replace("weight 0", "weight 99") + ";guest f weight 50 at e;guest g weight 50 at e;guest h weight 50 at e";
        answers(heavy, "-249", 751, x -> x.house(4, 3));
        answers(heavy, "-99", 901, x -> x.house(0, 3));
    }

    // ---- Promise 7

    void promise07_corksOfAHouseThatThereIs() {
        never(NO_LAKE, "corks", 1, (x, h) -> x.corks(h, 0));
        bounded(THREE, "corks", 0, 2, 1, (x, h) -> x.corks(h, 4));
        bounded(FIVE, "corks", 0, 4, 1, (x, h) -> x.corks(h, 0));
    }

    void promise07_corksOfAKindFrom0To4() {
        bounded(THREE, "corks, kind", 0, 4, 2, (x, kind) -> x.corks(2, kind));
        bounded(BARE, "corks, kind", 0, 4, 2, (x, kind) -> x.corks(0, kind));
    }

    void promise07_corksOfNoHouseAndNoKind() {
        refused(THREE, "corks(3, 5)", 1, x -> x.corks(3, 5));
        refused(THREE, "corks(-1, -1)", 1, x -> x.corks(-1, -1));
        refused(NO_LAKE, "corks(0, 5)", 1, x -> x.corks(0, 5));
    }

    void promise07_corksAreNoneOrMany() {
        answers(BARE, "none", 0, x -> x.corks(0, 0));
        answers(BoundsOfText.full(), "told and given", 110, x -> x.corks(0, 0));
        answers(BoundsOfText.full(), "told", 30, x -> x.corks(4, 4));
    }

    // ---- Promise 8

    void promise08_guestIsOneThatThereIs() {
        never(NO_LAKE, "guest", 1, (x, g) -> x.guest(g, 0));
        never(BARE, "guest", 1, (x, g) -> x.guest(g, 0));
        bounded(THREE, "guest", 0, 1, 1, (x, g) -> x.guest(g, 0));
        bounded(BoundsOfText.full(), "guest", 0, 2, 1, (x, g) -> x.guest(g, 1));
    }

    void promise08_guestTells0And1() {
        bounded(THREE, "guest, what", 0, 1, 1, (x, what) -> x.guest(1, what));
        answers(THREE, "weight", 2, x -> x.guest(1, 0));
        answers(THREE, "house", 2, x -> x.guest(1, 1));
        answers(made(THREE, x -> x.move(1, 0)), "house NOW", 0, x -> x.guest(1, 1));
        refused(THREE, "neither", 1, x -> x.guest(2, 2));
    }

    // ---- Promise 9

    void promise09_ropeIsOneThatThereIs() {
        never(NO_LAKE, "rope", 1, (x, k) -> x.rope(k, 0));
        never(FIVE, "rope", 1, (x, k) -> x.rope(k, 0));
        bounded(THREE, "rope", 0, 1, 1, (x, k) -> x.rope(k, 0));
        bounded(RING, "rope", 0, 4, 1, (x, k) -> x.rope(k, 2));
    }

    void promise09_ropeTells0To2() {
        bounded(THREE, "rope, what", 0, 2, 1, (x, what) -> x.rope(1, what));
        refused(THREE, "neither", 1, x -> x.rope(2, 3));
    }

    void promise09_ropeTellsTheLesserHouseFirst() {
        int[][] ends = {{0, 1}, {1, 2}, {2, 3}, {3, 4}, {0, 4}};
        for (int k = 0; k < 5; k++) {
            int rope = k;
            answers(RING, "the lesser of " + k, ends[k][0], x -> x.rope(rope, 0));
            answers(RING, "the other of " + k, ends[k][1], x -> x.rope(rope, 1));
            answers(RING, "tied " + k, 1, x -> x.rope(rope, 2));
            answers(made(RING, x -> x.cut(rope)), "cut " + k, 0, x -> x.rope(rope, 2));
            answers(made(RING, x -> x.cut((rope + 1) % 5)), "another one cut", 1, x -> x.rope(rope, 2));
        }
    }

    // ---- Promises 10 to 13

    void promise10_underNeedsALake() {
        refused(NO_LAKE, "under()", 1, x -> x.under());
    }

    void promise10_underIsNobodyOrAll() {
        answers(FIVE, "nobody", 0, x -> x.under());
        answers(DEEP, "all", 31, x -> x.under());
        answers(BARE.replace("weight 0", "weight 1"), "the only one", 1, x -> x.under());
        answers(FIVE + ";guest g weight 1 at e", "the last one", 16, x -> x.under());
        answers(RING + ";guest g weight 1 at e", "a raft goes under as one", 31, x -> x.under());
        answers(RING + ";guest g weight 1 at e;corks a soft 1", "at 0 it isn't", 0, x -> x.under());
    }

    void promise11_lowestNeedsALake() {
        refused(NO_LAKE, "lowest()", 1, x -> x.lowest());
    }

    void promise11_lowestIsTheFirstSuch() {
        answers(FIVE, "all alike", 0, x -> x.lowest());
        answers(DEEP, "the last", 4, x -> x.lowest());
        answers(DEEP + ";guest g weight 1 at d", "of d and e the first", 3, x -> x.lowest());
        answers(DEEP + ";guest g weight 2 at d", "d", 3, x -> x.lowest());
        answers(BARE, "the only one", 0, x -> x.lowest());
        answers(RING + ";guest g weight 1 at e", "of a raft the first", 0, x -> x.lowest());
        // -3 by 2 is as low as -2.
        answers("lake mice 0;house a north weight 2;house b north weight 3;house c north weight 0;rope b c", "downwards", 0, x -> x.lowest());
    }

    void promise12_raftsNeedALake() {
        refused(NO_LAKE, "rafts()", 1, x -> x.rafts());
    }

    void promise12_raftsAreOneToFive() {
        answers(BARE, "one house", 1, x -> x.rafts());
        answers(FIVE, "no ropes", 5, x -> x.rafts());
        answers(RING, "a ring", 1, x -> x.rafts());
        answers(made(RING, x -> x.cut(0)), "a ring, cut", 1, x -> x.rafts());
        CorkStreet x = made(RING);
        int[] left = {1, 2, 3, 4, 5};
        for (int k = 0; k < 5; k++) {
            x.cut(k);
            due.is("rafts behind cut " + k, x.rafts(), left[k]);
        }
    }

    void promise13_tiltOfAHouseThatThereIs() {
        never(NO_LAKE, "tilt", 1, (x, h) -> x.tilt(h));
        bounded(BARE, "tilt", 0, 0, 1, (x, h) -> x.tilt(h));
        bounded(THREE, "tilt", 0, 2, 1, (x, h) -> x.tilt(h));
        bounded(FIVE, "tilt", 0, 4, 1, (x, h) -> x.tilt(h));
    }

    void promise13_tiltIsOfItsRaftAlone() {
        answers(DEEP, "alone", 0, x -> x.tilt(4));
        answers(DEEP + ";rope b e", "-2 and -5", 3, x -> x.tilt(1));
        answers(DEEP + ";rope b e", "-2 and -5", 3, x -> x.tilt(4));
        answers(DEEP + ";rope b e", "not of that raft", 0, x -> x.tilt(0));
        answers(DEEP + ";rope a b;rope b c;rope c d;rope d e", "-1 and -5", 4, x -> x.tilt(2));
        answers(DEEP + ";rope a c;rope c b", "the middle isn't told first", 2, x -> x.tilt(1));
        answers(THREE, "2 and -5", 7, x -> x.tilt(0));
        answers(made(THREE, x -> x.cut(0)), "cut off", 0, x -> x.tilt(0));
    }

    // ---- Promises 14 to 17

    void promise14_heightInWeeks0To20() {
        bounded(THREE, "heightIn, weeks", 0, 20, 2, (x, n) -> x.heightIn(0, n));
    }

    void promise14_heightInOfAHouseThatThereIs() {
        never(NO_LAKE, "heightIn", 1, (x, h) -> x.heightIn(h, 0));
        bounded(THREE, "heightIn", 0, 2, 1, (x, h) -> x.heightIn(h, 20));
        refused(THREE, "neither", 1, x -> x.heightIn(3, 21));
        refused(NO_LAKE, "no LAKE, no such weeks", 1, x -> x.heightIn(0, -1));
    }

    void promise14_heightInGoesDownAsCorksGoSoft() {
        String red = "lake mice 100;house a north weight 0;corks a red 30;corks a white 1";
        int[] heights = {1092, 1062, 1032, 1002, 1002};
        for (int n = 0; n < heights.length; n++) {
            int weeks = n;
            answers(red, "in " + n + " weeks, without MICE", heights[n], x -> x.heightIn(0, weeks));
        }
        answers(red, "in 20 weeks", 1002, x -> x.heightIn(0, 20));
        answers(made(red.replace("mice 100", "mice 0"), x -> x.week()), "0 weeks from NOW", 1062, x -> x.heightIn(0, 0));
        answers(made(red.replace("mice 100", "mice 0"), x -> x.week()), "a week from NOW", 1032, x -> x.heightIn(0, 1));
    }

    void promise15_underInWeeks0To20() {
        never(NO_LAKE, "underIn", 1, (x, n) -> x.underIn(n));
        bounded(THREE, "underIn, weeks", 0, 20, 2, (x, n) -> x.underIn(n));
    }

    void promise15_underInTellsThoseUnderThen() {
        String sinking = "lake mice 100;house a north weight 3;house b north weight 2;house c north weight 1;house d north weight 0;"
                + "house e north weight 4;corks a red 1;corks b red 1;corks c red 1;corks e fizzy 1";
        int[] under = {0, 1, 3, 7, 7};
        for (int n = 0; n < under.length; n++) {
            int weeks = n;
            answers(sinking, "in " + n + " weeks", under[n], x -> x.underIn(weeks));
        }
        answers(sinking, "in 20 weeks", 7, x -> x.underIn(20));
    }

    void promise16_sinksOfAHouseThatThereIs() {
        never(NO_LAKE, "sinks", 1, (x, h) -> x.sinks(h));
        bounded(THREE, "sinks", 0, 2, 1, (x, h) -> x.sinks(h));
        bounded(BARE, "sinks", 0, 0, 1, (x, h) -> x.sinks(h));
    }

    void promise16_sinksNowOrInWeeksOrNever() {
        for (int weight = 0; weight <= 4; weight++) {
            int weeks = weight == 0 ? -2 : 4 - weight;
            answers("lake mice 100;house a north weight " + weight + ";corks a red 1", "weight " + weight, weeks, x -> x.sinks(0));
        }
        answers("lake mice 100;house a north weight 4;corks a fizzy 1", "it never sinks", -2, x -> x.sinks(0));
        answers("lake mice 0;house a north weight 5;corks a fizzy 1", "it is UNDER", 0, x -> x.sinks(0));
    }

    void promise17_wetFeastNeedsALake() {
        refused(NO_LAKE, "wetFeast()", 1, x -> x.wetFeast());
    }

    void promise17_wetFeastWithoutAFeastOrAllDry() {
        answers("lake mice 0;house a north weight 9", "no feast", -2, x -> x.wetFeast());
        answers(BARE + ";feast a week 0 high 0;feast a week 9 high 0", "all dry", -2, x -> x.wetFeast());
    }

    void promise17_wetFeastIsDryAtItsHeight() {
        String high = "lake mice 0;house a north weight 0;corks a white 25;feast a week 9 high 50";
        answers(high, "50", -2, x -> x.wetFeast());
        answers(high + ";guest g weight 1 at a", "49", 0, x -> x.wetFeast());
        answers(high + ";corks a fizzy 1", "54", -2, x -> x.wetFeast());
        answers(BARE + ";feast a week 0 high 1", "0 of 1", 0, x -> x.wetFeast());
        answers(BARE + ";guest g weight 1 at a;feast a week 0 high 0", "-1 of 0", 0, x -> x.wetFeast());
    }

    void promise17_wetFeastIsTheFirstAsTold() {
        String feasts = BARE + ";feast a week 5 high 0;feast a week 4 high 0;feast a week 3 high 0;feast a week 0 high 1";
        answers(feasts, "the last of four", 3, x -> x.wetFeast());
        answers(feasts.replace("high 0", "high 1"), "the first of four", 0, x -> x.wetFeast());
    }

    void promise17_wetFeastIsInItsWeekFromNow() {
        for (int week = 0; week <= 9; week++) {
            int lift = Math.max(0, 3 - week);
            String feast = "lake mice 0;house a north weight 0;corks a red 1;feast a week " + week + " high ";
            answers(feast + lift, "week " + week, -2, x -> x.wetFeast());
            answers(feast + (lift + 1), "week " + week + ", too high", 0, x -> x.wetFeast());
            int next = Math.max(0, 2 - week);
            answers(made(feast + next, x -> x.week()), "week " + week + " from a later NOW", -2, x -> x.wetFeast());
            answers(made(feast + (next + 1), x -> x.week()), "week " + week + " from a later NOW, too high", 0, x -> x.wetFeast());
        }
    }
}
