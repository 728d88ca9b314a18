import java.util.function.ToLongFunction;

/** Promises 43 to 51: acts, undoing, images (terms, III). */
final class BoundsOfActs extends Bounds {
    private static final String THREE = "lake mice 0;house a north weight 3;house b south weight 4;house c north weight 5;rope a b;rope b c;"
            + "corks a red 3;guest f weight 1 at a;guest g weight 2 at c;drinker p white drinks 4;drinker q red drinks 2";
    private static final int KEPT = 16;
    private static final int LAST = 999;

    BoundsOfActs(Due due) {
        super(due);
    }

    /** An act that isn't refused can be undone: all is as ahead of it then. */
    private void undone(String text, String what, long answer, ToLongFunction<CorkStreet> act) {
        CorkStreet x = made(text);
        String before = picture(x);
        taken(x, what, answer, act);
        due.is("it can be undone", x.size(10), 1);
        taken(x, "undo()", 1, y -> bit(y.undo()));
        due.is("all as ahead of " + what, picture(x), before);
    }

    /** The picture without how many ACTS can be undone and how many IMAGES there are. */
    private static String state(CorkStreet x) {
        return picture(x).replaceFirst("^((\\S+ ){10})\\S+ \\S+ ", "$1");
    }

    // ---- Promise 43

    void promise43_drinkByADrinkerThatThereIs() {
        never(NO_LAKE, "drink", 1, (x, d) -> x.drink(d, 0));
        never(BARE, "drink", 1, (x, d) -> x.drink(d, 0));
        bounded(THREE, "drink", 0, 1, 1, (x, d) -> x.drink(d, 2));
        bounded(BoundsOfText.full(), "drink", 0, 2, 1, (x, d) -> x.drink(d, 0));
    }

    void promise43_drinkForAHouseThatThereIs() {
        bounded(THREE, "drink, house", 0, 2, 1, (x, h) -> x.drink(1, h));
        bounded(BoundsOfText.full(), "drink, house", 0, 4, 1, (x, h) -> x.drink(2, h));
        refused(THREE, "neither", 1, x -> x.drink(2, 3));
    }

    void promise43_drinkIsOneBottleWhoseCorkIsThereThen() {
        undone(THREE, "the first of white", 1, x -> x.drink(0, 0));
        undone(THREE, "the fourth of red", 4, x -> x.drink(1, 0));
        undone(THREE, "the first at the last house", 1, x -> x.drink(1, 2));
        CorkStreet x = made(THREE, y -> y.drink(1, 2));
        due.is("red there", x.corks(2, 0), 1);
        due.is("red elsewhere", x.corks(0, 0), 3);
        due.is("white there", x.corks(2, 3), 0);
    }

    void promise43_drinkUpTo999OfAKindUnderAHouse() {
        CorkStreet x = made(THREE);
        for (int corks = 4; corks < LAST; corks++) {
            due.is("drink", x.drink(1, 0), corks);
        }
        taken(x, "the last that has room", LAST, y -> y.drink(1, 0));
        due.is("corks", x.corks(0, 0), LAST);
        refused(x, "999 are there", 3, y -> y.drink(1, 0));
        due.is("corks stay", x.corks(0, 0), LAST);
        taken(x, "another kind has room", 1, y -> y.drink(0, 0));
        taken(x, "another house has room", 1, y -> y.drink(1, 1));
        refused(x, "999 are there still", 3, y -> y.drink(1, 0));
        refused(x, "no such drinker goes ahead of no room", 1, y -> y.drink(2, 0));
        taken(x, "undo()", 1, y -> bit(y.undo()));
        taken(x, "undo()", 1, y -> bit(y.undo()));
        taken(x, "undo()", 1, y -> bit(y.undo()));
        due.is("998 are left", x.corks(0, 0), LAST - 1);
        taken(x, "room for one again", LAST, y -> y.drink(1, 0));
        taken(x, "week()", 0, y -> y.week());
        taken(x, "none of them are red now", 1, y -> y.drink(1, 0));
        due.is("all are stale", x.corks(0, 1), LAST);
    }

    // ---- Promise 44

    void promise44_moveAGuestThatThereIs() {
        never(NO_LAKE, "move", 1, (x, g) -> bit(x.move(g, 0)));
        never(BARE, "move", 1, (x, g) -> bit(x.move(g, 0)));
        bounded(THREE, "move", 0, 1, 1, (x, g) -> bit(x.move(g, 1)));
        bounded(BoundsOfText.full(), "move", 0, 2, 1, (x, g) -> bit(x.move(g, 4)));
    }

    void promise44_moveToAHouseThatThereIs() {
        for (int h : new int[] {-1, 3, LEAST, MOST}) {
            refused(THREE, "move(0, " + h + ")", 1, x -> bit(x.move(0, h)));
            refused(THREE, "neither", 1, x -> bit(x.move(2, h)));
        }
        undone(THREE, "move(0, 2)", 1, x -> bit(x.move(0, 2)));
        undone(THREE, "move(1, 0)", 1, x -> bit(x.move(1, 0)));
    }

    void promise44_moveWhereItIsNow() {
        refused(THREE, "f is at a", 5, x -> bit(x.move(0, 0)));
        refused(THREE, "g is at c", 5, x -> bit(x.move(1, 2)));
        CorkStreet x = made(THREE);
        taken(x, "f to c", 1, y -> bit(y.move(0, 2)));
        refused(x, "f is at c", 5, y -> bit(y.move(0, 2)));
        due.is("f at c", x.guest(0, 1), 2);
        taken(x, "f to a again", 1, y -> bit(y.move(0, 0)));
    }

    // ---- Promises 45 and 46

    void promise45_cutARopeThatThereIs() {
        never(NO_LAKE, "cut", 1, (x, k) -> bit(x.cut(k)));
        never(BARE, "cut", 1, (x, k) -> bit(x.cut(k)));
        bounded(THREE, "cut", 0, 1, 1, (x, k) -> bit(x.cut(k)));
        bounded(BoundsOfText.full(), "cut", 0, 4, 1, (x, k) -> bit(x.cut(k)));
        undone(THREE, "cut(1)", 1, x -> bit(x.cut(1)));
    }

    void promise45_cutWhatIsCut() {
        CorkStreet x = made(THREE);
        taken(x, "cut(1)", 1, y -> bit(y.cut(1)));
        refused(x, "it is cut", 5, y -> bit(y.cut(1)));
        due.is("cut", x.rope(1, 2), 0);
        taken(x, "cut(0)", 1, y -> bit(y.cut(0)));
        taken(x, "tie(1)", 1, y -> bit(y.tie(1)));
        taken(x, "cut(1) again", 1, y -> bit(y.cut(1)));
    }

    void promise46_tieARopeThatThereIs() {
        never(NO_LAKE, "tie", 1, (x, k) -> bit(x.tie(k)));
        never(BARE, "tie", 1, (x, k) -> bit(x.tie(k)));
        for (int k : new int[] {-1, 2, LEAST, MOST}) {
            refused(THREE, "tie(" + k + ")", 1, x -> bit(x.tie(k)));
        }
        for (int k : new int[] {-1, 5, LEAST, MOST}) {
            refused(BoundsOfText.full(), "tie(" + k + ")", 1, x -> bit(x.tie(k)));
        }
        for (int k : new int[] {0, 4}) {
            taken(made(BoundsOfText.full(), x -> x.cut(k)), "tie(" + k + ")", 1, x -> bit(x.tie(k)));
        }
    }

    void promise46_tieWhatIsTied() {
        refused(THREE, "both are tied at first", 5, x -> bit(x.tie(0)));
        refused(THREE, "both are tied at first", 5, x -> bit(x.tie(1)));
        CorkStreet x = made(THREE, y -> y.cut(1));
        refused(x, "the other one is tied", 5, y -> bit(y.tie(0)));
        taken(x, "tie(1)", 1, y -> bit(y.tie(1)));
        due.is("tied", x.rope(1, 2), 1);
        taken(x, "undo()", 1, y -> bit(y.undo()));
        due.is("cut, as ahead of it", x.rope(1, 2), 0);
        taken(x, "tie(1) again", 1, y -> bit(y.tie(1)));
        refused(x, "it is tied", 5, y -> bit(y.tie(1)));
    }

    // ---- Promise 47

    void promise47_weekNeedsALake() {
        refused(NO_LAKE, "week()", 1, x -> x.week());
    }

    void promise47_weekTellsNobodyOrAll() {
        undone(BARE, "nobody", 0, x -> x.week());
        undone("lake mice 0;house a north weight 1;house b south weight 2;house c north weight 3;house d north weight 4;"
                + "house e south weight 5;corks a red 1", "all but the first", 30, x -> x.week());
        undone("lake mice 0;house a north weight 1;house b south weight 2;house c north weight 3;house d north weight 4;"
                + "house e south weight 5;corks a soft 1", "all", 31, x -> x.week());
    }

    void promise47_weekIsWithMiceBySeed() {
        // From 65,536 the SEED stays, and each DRAW is 36 in a hundred.
        String white = "house a north weight 0;house b north weight 0;corks a white 9;corks b white 9";
        CorkStreet x = made("lake mice 36;" + white, y -> {
            y.seed(65536);
            y.week();
        });
        due.is("36 isn't below 36", x.corks(0, 3) + x.corks(1, 3), 18);
        x = made("lake mice 37;" + white, y -> {
            y.seed(65536);
            y.week();
        });
        due.is("36 is below 37", x.corks(0, 3) * 10 + x.corks(1, 3), 88);
        due.is("SEED", x.size(9), 65536);
    }

    void promise47_weekStepsTheSeedWithAWrapAround() {
        int[][] steps = {{0, 74}, {872, 65474}, {873, 12}, {45438, 0}, {65535, 65461}, {65536, 65536}};
        for (int[] step : steps) {
            for (String mice : new String[] {"mice 0", "mice 100"}) {
                CorkStreet x = made(BARE.replace("mice 0", mice), y -> y.seed(step[0]));
                x.week();
                due.is("SEED behind " + step[0], x.size(9), step[1]);
                x = made(BARE.replace("mice 0", mice).replace("north", "south"), y -> y.seed(step[0]));
                x.week();
                due.is("no DRAW for a south house", x.size(9), step[0]);
            }
        }
    }

    void promise47_weeksUpTo999() {
        CorkStreet x = made(THREE);
        for (int week = 1; week < LAST; week++) {
            x.week();
            due.is("week", x.size(8), week);
        }
        taken(x, "the last week", 7, y -> y.week());
        due.is("999 went by", x.size(8), LAST);
        refused(x, "no room", 3, y -> y.week());
        due.is("999 went by", x.size(8), LAST);
        taken(x, "weeks to come can still be asked for", 995, y -> y.heightIn(0, 20));
        taken(x, "undo()", 1, y -> bit(y.undo()));
        due.is("998 went by", x.size(8), LAST - 1);
        taken(x, "the last week again", 7, y -> y.week());
        refused(x, "no room", 3, y -> y.week());
    }

    // ---- Promise 48

    void promise48_seedIs0To65536() {
        never(NO_LAKE, "seed", 1, (x, v) -> bit(x.seed(v)));
        refused(NO_LAKE, "no LAKE, no such SEED", 1, x -> bit(x.seed(65537)));
        bounded(THREE, "seed", 0, 65536, 2, (x, v) -> bit(x.seed(v)));
        for (int v : new int[] {0, 1, 65535, 65536}) {
            due.is("SEED", made(THREE, x -> x.seed(v)).size(9), v);
        }
    }

    void promise48_seedIsNoAct() {
        CorkStreet x = made(THREE);
        taken(x, "seed(7)", 1, y -> bit(y.seed(7)));
        due.is("nothing to undo", x.size(10), 0);
        refused(x, "undo()", 6, y -> bit(y.undo()));
        due.is("SEED", x.size(9), 7);
        x.cut(0);
        taken(x, "seed(8)", 1, y -> bit(y.seed(8)));
        due.is("one to undo", x.size(10), 1);
        taken(x, "undo()", 1, y -> bit(y.undo()));
        due.is("SEED as ahead of the ACT", x.size(9), 7);
    }

    // ---- Promise 49

    void promise49_undoOfNothing() {
        refused(NO_LAKE, "no LAKE", 6, x -> bit(x.undo()));
        refused(THREE, "no ACT", 6, x -> bit(x.undo()));
        CorkStreet x = made(THREE);
        x.cut(0);
        taken(x, "undo()", 1, y -> bit(y.undo()));
        refused(x, "all is undone", 6, y -> bit(y.undo()));
    }

    void promise49_undoOfEachAct() {
        undone(THREE, "drink", 1, x -> x.drink(0, 0));
        undone(THREE, "move", 1, x -> bit(x.move(0, 1)));
        undone(THREE, "cut", 1, x -> bit(x.cut(0)));
        undone(THREE.replace("mice 0", "mice 100"), "week", 7, x -> x.week());
        CorkStreet x = made(THREE, y -> y.cut(0));
        String before = picture(x);
        x.tie(0);
        taken(x, "undo()", 1, y -> bit(y.undo()));
        due.is("all as ahead of tie", picture(x), before);
    }

    void promise49_undoOfEachActWhereAllIsFull() {
        String full = BoundsOfText.full();
        for (int g = 0; g < 3; g++) {
            int guest = g;
            undone(full, "move " + g, 1, x -> bit(x.move(guest, 4)));
        }
        for (int k = 0; k < 5; k++) {
            int rope = k;
            undone(full, "cut " + k, 1, x -> bit(x.cut(rope)));
        }
        for (int d = 0; d < 3; d++) {
            int drinker = d;
            undone(full, "drink " + d, 31, x -> x.drink(drinker, 4));
        }
        undone(full, "week", 0, x -> x.week());
    }

    void promise49_undoOf16ActsButNotOf17() {
        for (int acts = KEPT - 1; acts <= KEPT + 2; acts++) {
            int kept = Math.min(acts, KEPT);
            CorkStreet x = made(THREE);
            for (int i = 0; i < acts; i++) {
                x.drink(0, 0);
            }
            due.is("kept of " + acts, x.size(10), kept);
            for (int i = 1; i <= kept; i++) {
                taken(x, "undo()", 1, y -> bit(y.undo()));
                due.is("corks", x.corks(0, 3), acts - i);
                due.is("kept", x.size(10), kept - i);
            }
            refused(x, "no more are kept", 6, y -> bit(y.undo()));
        }
    }

    void promise49_undoAndActAgainManyTimes() {
        CorkStreet x = made(THREE);
        int corks = 0;
        for (int round = 0; round < 6; round++) {
            for (int i = 0; i < 11; i++) {
                x.drink(0, 1);
                corks++;
            }
            for (int i = 0; i < 5; i++) {
                x.undo();
                corks--;
            }
            due.is("corks in round " + round, x.corks(1, 3), corks);
        }
        // 66 put and 30 undone: 36 lie there. Of the last 16 kept 5 are undone.
        due.is("kept", x.size(10), KEPT - 5);
        for (int i = 1; i <= KEPT - 5; i++) {
            x.undo();
            due.is("corks", x.corks(1, 3), corks - i);
        }
        refused(x, "no more are kept", 6, y -> bit(y.undo()));
    }

    void promise49_undoOfNoRefusedAct() {
        CorkStreet x = made(THREE, y -> y.cut(0));
        refused(x, "cut", 5, y -> bit(y.cut(0)));
        refused(x, "drink", 1, y -> y.drink(2, 0));
        due.is("one to undo", x.size(10), 1);
        taken(x, "undo()", 1, y -> bit(y.undo()));
        due.is("tied", x.rope(0, 2), 1);
    }

    void promise49_undoLeavesImages() {
        CorkStreet x = made(THREE);
        x.cut(0);
        x.image();
        taken(x, "undo()", 1, y -> bit(y.undo()));
        due.is("IMAGES", x.size(11), 1);
        taken(x, "back(0)", 1, y -> bit(y.back(0)));
        due.is("cut, as by the IMAGE", x.rope(0, 2), 0);
    }

    // ---- Promise 50

    void promise50_imageNeedsALake() {
        refused(NO_LAKE, "image()", 1, x -> x.image());
    }

    void promise50_imagesUpTo3() {
        CorkStreet x = made(THREE);
        for (int i = 0; i < 3; i++) {
            taken(x, "image " + i, i, y -> y.image());
            due.is("IMAGES", x.size(11), i + 1);
        }
        refused(x, "no room", 3, y -> y.image());
    }

    void promise50_imageIsNoActAndLeavesWhatCanBeUndone() {
        CorkStreet x = made(THREE, y -> y.cut(0));
        taken(x, "image()", 0, y -> y.image());
        due.is("one to undo", x.size(10), 1);
        taken(x, "undo()", 1, y -> bit(y.undo()));
        due.is("tied", x.rope(0, 2), 1);
    }

    void promise50_imagesAreGoneByALake() {
        CorkStreet x = made(THREE);
        x.image();
        x.image();
        x.image();
        due.is("the LAKE again", Due.lake(x, THREE), 3);
        refused(x, "back(0)", 1, y -> bit(y.back(0)));
        taken(x, "image()", 0, y -> y.image());
    }

    // ---- Promise 51

    void promise51_backToAnImageThatThereIs() {
        never(NO_LAKE, "back", 1, (x, image) -> bit(x.back(image)));
        never(THREE, "back", 1, (x, image) -> bit(x.back(image)));
        for (int images = 1; images <= 3; images++) {
            for (int image : new int[] {-1, images, LEAST, MOST}) {
                CorkStreet x = made(THREE);
                for (int i = 0; i < images; i++) {
                    x.image();
                }
                x.cut(0);
                refused(x, "back(" + image + ") of " + images, 1, y -> bit(y.back(image)));
                due.is("what can be undone stays", x.size(10), 1);
            }
            CorkStreet x = made(THREE);
            for (int i = 0; i < images; i++) {
                x.image();
            }
            taken(x, "back(0)", 1, y -> bit(y.back(0)));
            int last = images - 1;
            taken(x, "back(" + last + ")", 1, y -> bit(y.back(last)));
            due.is("all IMAGES stay", x.size(11), images);
        }
    }

    void promise51_backBringsAllAsItWas() {
        CorkStreet x = made(THREE);
        String first = state(x);
        x.image();
        x.drink(0, 1);
        x.move(0, 2);
        x.cut(1);
        x.week();
        x.seed(65536);
        x.image();
        String second = state(x);
        due.is("the IMAGES are unlike", first.equals(second), false);
        x.tie(1);
        taken(x, "back(0)", 1, y -> bit(y.back(0)));
        due.is("as by the first", state(x), first);
        taken(x, "back(1)", 1, y -> bit(y.back(1)));
        due.is("as by the second", state(x), second);
    }

    void promise51_nothingCanBeUndoneBehindBack() {
        CorkStreet x = made(THREE);
        x.cut(0);
        x.image();
        x.cut(1);
        due.is("two to undo", x.size(10), 2);
        taken(x, "back(0)", 1, y -> bit(y.back(0)));
        due.is("none to undo", x.size(10), 0);
        refused(x, "undo()", 6, y -> bit(y.undo()));
        due.is("cut stays", x.rope(0, 2), 0);
        x.tie(0);
        taken(x, "what is done behind it can be undone", 1, y -> bit(y.undo()));
        refused(x, "but no more", 6, y -> bit(y.undo()));
    }
}
