/** Promises 1 to 5, and what the LAKE is at first and week by week (terms, II). */
final class BoundsOfLake extends Bounds {
    private static final int BLANKS = 0x20202020;
    private static final String ROPED = "lake mice 50;house a north weight 1;house b north weight 2;rope a b;corks a red 9;guest g weight 1 at a;"
            + "drinker p white drinks 1";

    BoundsOfLake(Due due) {
        super(due);
    }

    private static String padded(String text, int length) {
        StringBuilder s = new StringBuilder(text);
        while (s.length() < length) {
            s.append(' ');
        }
        return s.toString();
    }

    // ---- Promise 1

    void promise01_aNewObjectTellsNothingOfALake() {
        for (int what = 0; what <= 12; what++) {
            due.is("size(" + what + ")", new CorkStreet().size(what), 0);
        }
        due.is("trouble()", new CorkStreet().trouble(), 0);
        due.is("fault()", new CorkStreet().fault(), 0);
        due.is("where()", new CorkStreet().where(), NONE);
        due.is("led(0) throws", led(new CorkStreet(), 0), NONE);
    }

    void promise01_aNewObjectRefusesWhatNeedsALake() {
        for (Call call : Calls.all()) {
            refused(NO_LAKE, call.name(), call.name().equals("undo") ? 6 : 1, call.call());
        }
    }

    // ---- Promise 2

    void promise02_feedTellsHowManyBytesTheTapeHas() {
        CorkStreet x = new CorkStreet();
        for (int i = 1; i <= 50; i++) {
            due.is("feed " + i, x.feed(0, 0, 0, 0, 0), 20 * i);
            due.is("bytes behind feed " + i, x.size(12), 20 * i);
        }
    }

    void promise02_feedBeyond1000BytesIsNone() {
        CorkStreet x = new CorkStreet();
        for (int i = 1; i <= 50; i++) {
            x.feed(BLANKS, BLANKS, BLANKS, BLANKS, BLANKS);
        }
        due.is("feed 51", x.feed(1, 2, 3, 4, 5), NONE);
        due.is("feed 52", x.feed(LEAST, MOST, -1, 0, 1), NONE);
        due.is("bytes", x.size(12), 1000);
    }

    void promise02_feedBeyond1000BytesBringsNone() {
        String text = padded(BARE + ";corks a red 7", 1000);
        CorkStreet x = new CorkStreet();
        Due.feed(x, text);
        due.is("one more", x.feed(-1, -1, -1, -1, -1), NONE);
        due.is("the whole tape as it was", x.lake(1000), 1);
        due.is("its corks", x.corks(0, 0), 7);
        due.is("room again", x.feed(0, 0, 0, 0, 0), 20);
    }

    void promise02_feedPutsTheHighestByteFirst() {
        for (int place = 0; place < 20; place++) {
            for (int wrong : new int[] {0, '!', 127, 128, 255}) {
                int[] words = {BLANKS, BLANKS, BLANKS, BLANKS, BLANKS};
                int shift = 24 - place % 4 * 8;
                words[place / 4] = BLANKS & ~(255 << shift) | wrong << shift;
                CorkStreet x = new CorkStreet();
                x.feed(words[0], words[1], words[2], words[3], words[4]);
                due.is("lake()", x.lake(20), NONE);
                due.is("the place of byte " + wrong, x.where(), place);
            }
        }
    }

    void promise02_feedComesBehindTheTape() {
        CorkStreet x = new CorkStreet();
        x.feed(BLANKS, BLANKS, BLANKS, BLANKS, BLANKS);
        x.feed(BLANKS, BLANKS, BLANKS, BLANKS, BLANKS | 1);
        x.lake(40);
        due.is("the last of forty", x.where(), 39);
        x.feed(0, BLANKS, BLANKS, BLANKS, BLANKS);
        x.lake(20);
        due.is("the first, the tape being empty then", x.where(), 0);
    }

    void promise02_feedLeavesTroubleAsItIs() {
        CorkStreet x = made(ROPED);
        x.tie(0);
        due.is("feed", x.feed(0, 0, 0, 0, 0), 20);
        due.is("trouble() behind feed", x.trouble(), 5);
        x.under();
        for (int i = 2; i <= 50; i++) {
            x.feed(0, 0, 0, 0, 0);
        }
        due.is("feed 51", x.feed(0, 0, 0, 0, 0), NONE);
        due.is("trouble() behind a feed that is NONE", x.trouble(), 0);
    }

    // ---- Promise 3

    void promise03_lakeTakes0ToAllBytesOfTheTape() {
        String text = padded(BARE, 40);
        for (int n : new int[] {-1, 41, 1000, 1001, LEAST, MOST}) {
            CorkStreet x = new CorkStreet();
            Due.feed(x, text);
            refused(x, "lake(" + n + ")", 2, y -> y.lake(n));
        }
        CorkStreet x = new CorkStreet();
        Due.feed(x, text);
        taken(x, "lake(40)", 1, y -> y.lake(40));
        x = new CorkStreet();
        Due.feed(x, text);
        due.is("lake(0)", x.lake(0), NONE);
        due.is("lake(0) has a FAULT, but is no wrong number", x.trouble(), 4);
        due.is("where() of lake(0)", x.where(), 0);
    }

    void promise03_lakeOfAnEmptyTape() {
        for (int n : new int[] {1, -1, LEAST, MOST}) {
            refused(NO_LAKE, "lake(" + n + ")", 2, y -> y.lake(n));
        }
        CorkStreet x = new CorkStreet();
        due.is("lake(0)", x.lake(0), NONE);
        due.is("trouble()", x.trouble(), 4);
        due.is("fault()", x.fault(), 1);
    }

    void promise03_lakeOfAFullTape() {
        CorkStreet x = new CorkStreet();
        Due.feed(x, padded(BARE, 1000));
        refused(x, "lake(1001)", 2, y -> y.lake(1001));
        due.is("lake(1000)", x.lake(1000), 1);
    }

    void promise03_theTapeStaysBy2() {
        CorkStreet x = new CorkStreet();
        Due.feed(x, padded(BARE + ";corks a red 7", 60));
        x.lake(61);
        due.is("bytes", x.size(12), 60);
        x.lake(-1);
        due.is("bytes", x.size(12), 60);
        due.is("what stayed is read", x.lake(60), 1);
        due.is("its corks", x.corks(0, 0), 7);
    }

    void promise03_theTapeIsEmptyBehindALake() {
        CorkStreet x = made(BARE);
        due.is("bytes", x.size(12), 0);
        refused(x, "lake(1)", 2, y -> y.lake(1));
        due.is("feed", x.feed(0, 0, 0, 0, 0), 20);
    }

    void promise03_theTapeIsEmptyBehindAFault() {
        CorkStreet x = new CorkStreet();
        Due.feed(x, padded("boat", 40));
        due.is("lake(4)", x.lake(4), NONE);
        due.is("trouble()", x.trouble(), 4);
        due.is("bytes", x.size(12), 0);
        refused(x, "lake(1)", 2, y -> y.lake(1));
    }

    void promise03_onlyTheFirstBytesAreTheLake() {
        CorkStreet x = new CorkStreet();
        Due.feed(x, BARE + "9!;house");
        due.is("the first of them", x.lake(BARE.length()), 1);
        due.is("weight", x.house(0, 1), 0);
        Due.feed(x, BARE + "9!;house");
        due.is("a digit more", x.lake(BARE.length() + 1), 1);
        due.is("weight", x.house(0, 1), 9);
        Due.feed(x, BARE + "9!;house");
        due.is("a byte more", x.lake(BARE.length() + 2), NONE);
        due.is("its place", x.where(), BARE.length() + 1);
    }

    void promise03_lakeTellsHowManyHouses() {
        StringBuilder text = new StringBuilder("lake mice 0");
        for (int houses = 1; houses <= 5; houses++) {
            text.append(";house ").append((char) ('a' + houses)).append(" north weight 0");
            CorkStreet x = new CorkStreet();
            Due.feed(x, text.toString());
            int bytes = text.length();
            taken(x, "lake()", houses, y -> y.lake(bytes));
            due.is("size(1)", x.size(1), houses);
        }
    }

    void promise03_aLakeBeginsAnew() {
        CorkStreet x = made(ROPED, y -> {
            y.image();
            y.image();
            y.image();
            y.cut(0);
            y.week();
            y.move(0, 1);
            y.drink(0, 0);
            y.seed(65536);
        });
        String first = picture(made(ROPED));
        due.is("another one", picture(x).equals(first), false);
        due.is("the same LAKE again", Due.lake(x, ROPED), 2);
        due.is("rope tied", x.rope(0, 2), 1);
        due.is("SEED", x.size(9), 0);
        due.is("week", x.size(8), 0);
        due.is("nothing to undo", x.size(10), 0);
        due.is("no IMAGES", x.size(11), 0);
        due.is("all", picture(x), first);
        refused(x, "undo()", 6, y -> bit(y.undo()));
        refused(x, "back(0)", 1, y -> bit(y.back(0)));
        taken(x, "image()", 0, y -> y.image());
    }

    void promise03_nothingOfAFormerLakeOrTextIsLeft() {
        String least = picture(made(BARE));
        CorkStreet x = made(BoundsOfText.full());
        due.is("the least behind the fullest", Due.lake(x, BARE), 1);
        due.is("all", picture(x), least);
        due.is("a full text with a FAULT", Due.lake(x, BoundsOfText.full() + ";"), NONE);
        due.is("the least behind it", Due.lake(x, BARE), 1);
        due.is("all", picture(x), least);
        due.is("the side", x.house(0, 0), 0);
        due.is("the least of a south house", Due.lake(x, BARE.replace("north", "south")), 1);
        due.is("the side", x.house(0, 0), 1);
    }

    void promise03_noAnswerLivesOnAFormerLake() {
        String gave = ";drinker p white drinks 1;drinker q red drinks 1;gave p a 1;gave q a 1;seen a over ";
        String[] lakes = {BARE, BoundsOfText.full(), ROPED, BARE + gave + 3, BARE + gave + 4, BARE.replace("north", "south"),
            "lake mice 50;house a south weight 3;house b north weight 1;drinker p red drinks 3;feast b week 9 high 9"};
        for (String former : lakes) {
            for (String later : lakes) {
                for (Call call : Calls.all()) {
                    CorkStreet x = made(former);
                    call.call().applyAsLong(x);
                    due.is("houses", Due.lake(x, later), made(later).size(1));
                    CorkStreet alone = made(later);
                    long answer = call.call().applyAsLong(alone);
                    due.is(call.name() + " of " + later + " behind " + former, call.call().applyAsLong(x), answer);
                    due.is("trouble() behind it", x.trouble(), alone.trouble());
                }
            }
        }
    }

    void promise03_theLakeStaysBy2And4() {
        CorkStreet x = made(ROPED, y -> {
            y.image();
            y.cut(0);
            y.week();
            y.move(0, 1);
            y.seed(65536);
        });
        String before = picture(x);
        refused(x, "lake(1)", 2, y -> y.lake(1));
        due.is("lake(0)", x.lake(0), NONE);
        due.is("trouble()", x.trouble(), 4);
        due.is("all as it was", picture(x), before);
        due.is("a LAKE with a FAULT at its end", Due.lake(x, BARE + ";"), NONE);
        due.is("all as it was", picture(x), before);
        taken(x, "undo()", 1, y -> bit(y.undo()));
        due.is("the guest is back", x.guest(0, 1), 0);
        taken(x, "back(0)", 1, y -> bit(y.back(0)));
    }

    void promise03_noLakeBy4OnANewObject() {
        CorkStreet x = new CorkStreet();
        due.is("a LAKE with a FAULT", Due.lake(x, BARE + ";"), NONE);
        due.is("no houses", x.size(1), 0);
        refused(x, "under()", 1, y -> y.under());
    }

    // ---- Promise 4

    void promise04_faultIs0WithoutOne() {
        due.is("new", new CorkStreet().fault(), 0);
        CorkStreet x = made(BARE);
        due.is("fine", x.fault(), 0);
        x.lake(0);
        due.is("a FAULT", x.fault(), 1);
        Due.lake(x, BARE);
        due.is("fine again", x.fault(), 0);
    }

    void promise04_faultStaysByALakeRefusedBy2() {
        CorkStreet x = new CorkStreet();
        x.lake(1);
        due.is("2 alone", x.fault(), 0);
        Due.lake(x, "lake mice 5");
        due.is("6", x.fault(), 6);
        x.lake(1);
        due.is("6 behind 2", x.fault(), 6);
        Due.lake(x, BARE);
        x.lake(-1);
        due.is("0 behind 2", x.fault(), 0);
    }

    void promise04_faultStaysByOtherCalls() {
        for (Call call : Calls.all()) {
            CorkStreet x = Calls.ready();
            Due.lake(x, "lake mice 101");
            call.call().applyAsLong(x);
            due.is("fault() behind " + call.name(), x.fault(), 4);
        }
    }

    void promise04_faultHasNumbers1To6() {
        String[] texts = {"boat", BARE + ";rope b", BARE + ";house a", "lake mice 101", "lake mice 0;drinker p red drinks 1;"
            + "drinker q red drinks 1;drinker r red drinks 1;drinker", "house"};
        for (int i = 0; i < texts.length; i++) {
            CorkStreet x = new CorkStreet();
            due.is(texts[i], Due.lake(x, texts[i]), NONE);
            due.is("fault() of " + texts[i], x.fault(), i + 1);
        }
    }

    // ---- Promise 5

    void promise05_whereIsNoneWithoutAFault() {
        due.is("new", new CorkStreet().where(), NONE);
        due.is("fine", made(BARE).where(), NONE);
        CorkStreet x = made(BARE);
        x.lake(0);
        x.lake(1);
        due.is("refused by 2", x.where(), NONE);
        x.lake(0);
        due.is("refused by 4", x.where(), 0);
        Due.lake(x, BARE);
        due.is("fine", x.where(), NONE);
    }

    void promise05_whereIsNoneBehindAnyOtherCallThatMayBeRefused() {
        for (Call call : Calls.all()) {
            CorkStreet x = Calls.ready();
            Due.lake(x, "lake mice 101");
            due.is("where() behind 4", x.where(), 10);
            due.is(call.name() + " isn't refused", call.call().applyAsLong(x) != NONE, true);
            due.is("where() behind " + call.name(), x.where(), NONE);
            x = new CorkStreet();
            Due.lake(x, "lake mice 101");
            due.is("where() behind 4", x.where(), 10);
            due.is(call.name() + " is refused", call.call().applyAsLong(x), NONE);
            due.is("where() behind a refused " + call.name(), x.where(), NONE);
        }
    }

    void promise05_whereStaysBehindCallsThatMayNotBeRefused() {
        CorkStreet x = made(BARE);
        Due.lake(x, "lake mice 101");
        x.fault();
        due.is("fault", x.where(), 10);
        x.where();
        due.is("where", x.where(), 10);
        x.trouble();
        due.is("trouble", x.where(), 10);
        x.size(13);
        due.is("size", x.where(), 10);
        led(x, 0);
        due.is("led", x.where(), 10);
        x.feed(0, 0, 0, 0, 0);
        due.is("feed", x.where(), 10);
    }

    void promise05_whereIs0To1000() {
        CorkStreet x = new CorkStreet();
        Due.lake(x, "!");
        due.is("the first byte", x.where(), 0);
        Due.lake(x, padded("lake mice 5", 999) + "!");
        due.is("the last byte", x.where(), 999);
        Due.lake(x, padded("lake mice 5", 1000));
        due.is("the end", x.where(), 1000);
    }

    // ---- terms, II

    void termsII_aCorkLiftsByItsKind() {
        for (int kind = 0; kind < 5; kind++) {
            answers(BARE + ";corks a " + KINDS[kind] + " 1", "lift of " + KINDS[kind], LIFTS[kind], x -> x.house(0, 2));
            answers(BARE + ";corks a " + KINDS[kind] + " 30", "lift of 30 " + KINDS[kind], 30 * LIFTS[kind], x -> x.house(0, 2));
        }
        answers(BARE, "lift of none", 0, x -> x.house(0, 2));
    }

    void termsII_whatDrinkersGaveLiesBesidesWhatIsTold() {
        String gave = BARE + ";drinker p red drinks 1;drinker q white drinks 1;drinker r fizzy drinks 1";
        CorkStreet x = made(gave + ";corks a red 30;gave p a 20;gave p a 20;gave q a 1");
        due.is("red", x.corks(0, 0), 70);
        due.is("white", x.corks(0, 3), 1);
        due.is("fizzy", x.corks(0, 4), 0);
        due.is("corks told behind what was given", made(gave + ";gave r a 20;corks a fizzy 30").corks(0, 4), 50);
    }

    void termsII_heightIsByHowManyHousesDownwards() {
        int[] heights = {0, -1, -1, -2, -2, -3, -3, -4};
        for (int weight = 0; weight < heights.length; weight++) {
            answers("lake mice 0;house a north weight " + weight + ";house b north weight 0;rope a b", "-" + weight + " by 2",
                    1000 + heights[weight], x -> x.house(1, 3));
        }
        int[] up = {0, 0, 1, 1, 2};
        for (int corks = 1; corks < up.length; corks++) {
            answers("lake mice 0;house a north weight 0;house b north weight 0;rope a b;corks b soft " + corks, corks + " by 2",
                    1000 + up[corks], x -> x.house(0, 3));
        }
        String five = "lake mice 0;house a north weight 0;house b north weight 0;house c north weight 0;house d north weight 0;"
                + "house e north weight 0;rope a b;rope c d;rope d e;rope e a";
        answers(five + ";corks c soft 4", "4 by 5", 1000, x -> x.house(0, 3));
        answers(five + ";corks c soft 5", "5 by 5", 1001, x -> x.house(0, 3));
        answers(five + ";guest g weight 1 at b", "-1 by 5", 999, x -> x.house(0, 3));
        answers(five + ";guest g weight 5 at b", "-5 by 5", 999, x -> x.house(0, 3));
        answers(five + ";guest g weight 6 at b", "-6 by 5", 998, x -> x.house(0, 3));
    }

    void termsII_aRaftIsJoinedThroughOthersByRopesTiedNow() {
        String chain = "lake mice 0;house a north weight 0;house b north weight 0;house c north weight 0;house d north weight 0;"
                + "house e north weight 0;rope e d;rope a b;rope d c;rope c b";
        answers(chain, "all", 31, x -> x.house(0, 4));
        answers(made(chain, x -> x.cut(2)), "a and c to b", 7, x -> x.house(0, 4));
        answers(made(chain, x -> x.cut(2)), "d and e", 24, x -> x.house(4, 4));
        answers(made(chain, x -> x.cut(1)), "a alone", 1, x -> x.house(0, 4));
        answers(made(chain, x -> x.cut(1)), "all but a", 30, x -> x.house(1, 4));
        answers(made(chain, x -> {
            x.cut(1);
            x.tie(1);
        }), "tied again", 31, x -> x.house(0, 4));
        // A ring stays one RAFT without any one of its ropes.
        String ring = chain + ";rope e a";
        for (int k = 0; k < 5; k++) {
            int rope = k;
            answers(made(ring, x -> x.cut(rope)), "a ring without rope " + k, 31, x -> x.house(3, 4));
        }
        answers(made(ring, x -> {
            x.cut(4);
            x.cut(3);
        }), "a ring without two", 3, x -> x.house(0, 4));
    }

    void termsII_underIsBelow0() {
        answers("lake mice 0;house a north weight 2;corks a white 1", "height 0", 0, x -> x.under());
        answers("lake mice 0;house a north weight 3;corks a white 1", "height -1", 1, x -> x.under());
        answers("lake mice 0;house a north weight 1;corks a white 1", "height 1", 0, x -> x.under());
    }

    void termsII_inAWeekRedGoStaleStaleSoftAndSoftAreGone() {
        int[][] left = {{1, 2, 3, 4, 5}, {0, 1, 2, 4, 5}, {0, 0, 1, 4, 5}, {0, 0, 0, 4, 5}, {0, 0, 0, 4, 5}};
        CorkStreet x = made("lake mice 0;house a north weight 0;house b south weight 0;corks b red 1;corks b stale 2;corks b soft 3;"
                + "corks b white 4;corks b fizzy 5");
        for (int week = 0; week < left.length; week++) {
            for (int kind = 0; kind < 5; kind++) {
                due.is(KINDS[kind] + " in week " + week, x.corks(1, kind), left[week][kind]);
            }
            taken(x, "week()", 0, y -> y.week());
        }
    }

    void termsII_miceTakeOneOfThoseThatLiftLeastIfThereIsOne() {
        // Each week one goes: first what has gone soft, then stale ahead of white, then red (which goes stale first), then fizzy.
        CorkStreet x = made("lake mice 100;house a north weight 0;house b south weight 0;corks a red 1;corks a stale 1;corks a soft 1;"
                + "corks a white 1;corks a fizzy 1;corks b soft 1;corks b fizzy 1");
        int[][] left = {{0, 1, 0, 1, 1}, {0, 0, 0, 1, 1}, {0, 0, 0, 0, 1}, {0, 0, 0, 0, 0}, {0, 0, 0, 0, 0}};
        for (int week = 0; week < left.length; week++) {
            x.week();
            for (int kind = 0; kind < 5; kind++) {
                due.is(KINDS[kind] + " behind week " + (week + 1), x.corks(0, kind), left[week][kind]);
            }
            due.is("fizzy of the south house", x.corks(1, 4), 1);
        }
        CorkStreet like = made("lake mice 100;house a north weight 0;corks a red 1;corks a white 1");
        like.week();
        due.is("of stale and white the first KIND goes", like.corks(0, 1), 0);
        due.is("white stays", like.corks(0, 3), 1);
    }
}
