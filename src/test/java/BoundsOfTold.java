import java.util.NoSuchElementException;

/** Promises 52 to 54: what is told; and in which order refusals go (terms, IV). */
final class BoundsOfTold extends Bounds {
    private static final String THREE = "lake mice 50;house a north weight 3;house b south weight 4;house c north weight 5;rope a b;rope b c;"
            + "corks a red 3;guest f weight 1 at a;guest g weight 2 at c;drinker p white drinks 4;drinker q red drinks 2";
    private static final String FIVE = "lake mice 0;house a north weight 0;house b north weight 0;house c north weight 0;"
            + "house d north weight 0;house e north weight 0";

    BoundsOfTold(Due due) {
        super(due);
    }

    // ---- Promise 52

    /** Led answers by the houses that are UNDER, and throws for all other numbers; it changes nothing. */
    private void led(String text, int... houses) {
        CorkStreet x = made(text);
        String before = picture(x);
        x.back(-1);
        for (int i = 0; i < houses.length; i++) {
            due.is("led(" + i + ")", led(x, i), houses[i]);
        }
        for (int i : new int[] {-1, houses.length, houses.length + 1, LEAST, MOST}) {
            boolean thrown = false;
            try {
                x.led(i);
            } catch (NoSuchElementException e) {
                thrown = e.getClass() == NoSuchElementException.class;
            }
            due.is("led(" + i + ") throws", thrown, true);
        }
        due.is("trouble() behind led", x.trouble(), 1);
        due.is("all as it was", picture(x), before);
    }

    void promise52_ledWithoutALake() {
        led(NO_LAKE);
    }

    void promise52_ledWhereNobodyIsUnder() {
        led(BARE);
        led(FIVE);
    }

    void promise52_ledByNumbersOfThoseUnder() {
        led(BARE.replace("weight 0", "weight 1"), 0);
        led(FIVE.replace("weight 0", "weight 1"), 0, 1, 2, 3, 4);
        led(FIVE + ";guest f weight 1 at e;guest g weight 1 at b", 1, 4);
        led(FIVE + ";guest f weight 1 at e", 4);
        led(FIVE + ";guest f weight 1 at e;rope e c", 2, 4);
        led(FIVE + ";guest f weight 1 at a", 0);
    }

    void promise52_ledIsNow() {
        CorkStreet x = made("lake mice 0;house a north weight 3;house b north weight 2;corks a red 1;corks b red 1");
        due.is("nobody", led(x, 0), NONE);
        x.week();
        due.is("a", led(x, 0), 0);
        due.is("a alone", led(x, 1), NONE);
        x.week();
        due.is("b too", led(x, 1), 1);
        x.undo();
        due.is("a alone again", led(x, 1), NONE);
    }

    // ---- Promise 53

    void promise53_sizeOf0To12() {
        for (String text : new String[] {NO_LAKE, BARE, THREE, BoundsOfText.full()}) {
            CorkStreet x = made(text);
            for (int what = 0; what <= 12; what++) {
                due.is("size(" + what + ") isn't NONE", x.size(what) != NONE, true);
            }
            for (int what : new int[] {-1, 13, LEAST, MOST}) {
                due.is("size(" + what + ")", x.size(what), NONE);
            }
        }
    }

    void promise53_sizeIs0ForWhatThereIsNot() {
        for (int what = 0; what <= 12; what++) {
            due.is("size(" + what + ") of no LAKE", new CorkStreet().size(what), 0);
            due.is("size(" + what + ") of the least LAKE", made(BARE).size(what), what == 1 ? 1 : 0);
        }
    }

    void promise53_sizeOfTheFullest() {
        int[] sizes = {100, 5, 5, 3, 3, 4, 4, 5, 0, 0, 0, 0, 0};
        CorkStreet x = made(BoundsOfText.full());
        for (int what = 0; what <= 12; what++) {
            due.is("size(" + what + ")", x.size(what), sizes[what]);
        }
    }

    void promise53_sizeOfWhatIsDone() {
        CorkStreet x = made(THREE);
        for (int i = 1; i <= 3; i++) {
            x.image();
            due.is("IMAGES", x.size(11), i);
        }
        for (int i = 1; i <= 20; i++) {
            x.week();
            due.is("the week", x.size(8), i);
            due.is("ACTS that can be undone", x.size(10), Math.min(i, 16));
        }
        x.seed(65536);
        due.is("SEED", x.size(9), 65536);
        for (int i = 1; i <= 50; i++) {
            x.feed(0, 0, 0, 0, 0);
            due.is("bytes", x.size(12), 20 * i);
        }
        x.feed(0, 0, 0, 0, 0);
        due.is("bytes", x.size(12), 1000);
    }

    void promise53_sizeChangesNothing() {
        for (int what : new int[] {0, 12, -1, 13, LEAST, MOST}) {
            CorkStreet x = made(THREE);
            String before = picture(x);
            x.lake(-1);
            x.size(what);
            due.is("trouble() behind size(" + what + ")", x.trouble(), 2);
            due.is("all as it was", picture(x), before);
        }
    }

    // ---- Promise 54

    void promise54_troubleIs0ByWhatIsNotRefused() {
        due.is("a new object", new CorkStreet().trouble(), 0);
        for (Call call : Calls.all()) {
            for (int why : new int[] {1, 2, 5}) {
                CorkStreet x = Calls.ready();
                trouble(x, why);
                due.is("trouble() ahead of it", x.trouble(), why);
                due.is(call.name() + " isn't refused", call.call().applyAsLong(x) != NONE, true);
                due.is("trouble() behind " + call.name(), x.trouble(), 0);
            }
        }
        CorkStreet x = new CorkStreet();
        x.under();
        Due.lake(x, BARE);
        due.is("trouble() behind lake()", x.trouble(), 0);
    }

    private static void trouble(CorkStreet x, int why) {
        if (why == 1) {
            x.back(-1);
        } else if (why == 2) {
            x.lake(-1);
        } else {
            x.tie(0);
        }
    }

    void promise54_troubleHasNumbers0To6() {
        CorkStreet x = made(THREE);
        x.under();
        due.is("0: it wasn't refused", x.trouble(), 0);
        x.house(3, 0);
        due.is("1: there is none such", x.trouble(), 1);
        x.plan(5);
        due.is("2: a number", x.trouble(), 2);
        x.image();
        x.image();
        x.image();
        x.image();
        due.is("3: no room", x.trouble(), 3);
        x.lake(0);
        due.is("4: a FAULT", x.trouble(), 4);
        x.tie(0);
        due.is("5: not so", x.trouble(), 5);
        x.undo();
        due.is("6: there is none", x.trouble(), 6);
    }

    void promise54_troubleStaysByCallsThatMayNotBeRefused() {
        CorkStreet x = made(THREE);
        x.tie(0);
        due.is("trouble()", x.trouble(), 5);
        due.is("trouble() behind trouble()", x.trouble(), 5);
        x.fault();
        due.is("trouble() behind fault()", x.trouble(), 5);
        x.where();
        due.is("trouble() behind where()", x.trouble(), 5);
        x.size(0);
        due.is("trouble() behind size()", x.trouble(), 5);
        x.size(13);
        due.is("trouble() behind size(13)", x.trouble(), 5);
        led(x, 0);
        due.is("trouble() behind led()", x.trouble(), 5);
        led(x, 9);
        due.is("trouble() behind led() that throws", x.trouble(), 5);
        x.feed(0, 0, 0, 0, 0);
        due.is("trouble() behind feed()", x.trouble(), 5);
    }

    // ---- terms, IV

    void termsIV_noneSuchGoesAheadOfANumber() {
        refused(THREE, "corks", 1, x -> x.corks(3, 5));
        refused(THREE, "heightIn", 1, x -> x.heightIn(3, 21));
        refused(THREE, "aunt", 1, x -> x.aunt(3, 100, 5));
        refused(THREE, "planDays", 1, x -> x.planDays(2, 5));
        refused(THREE, "planHouse", 1, x -> x.planHouse(2, 5));
        refused(THREE, "feastHouse", 1, x -> x.feastHouse(2, 5));
        refused(THREE, "dry", 1, x -> x.dry(3, 5, false));
        refused(THREE, "mean", 1, x -> x.mean(3, 5, false));
        refused(THREE, "losses", 1, x -> x.losses(3, 5, false));
        refused(THREE, "weeks", 1, x -> x.weeks(3, 65537, 21));
    }

    void termsIV_noLakeGoesAheadOfANumber() {
        refused(NO_LAKE, "underIn", 1, x -> x.underIn(21));
        refused(NO_LAKE, "bestStay", 1, x -> x.bestStay(100));
        refused(NO_LAKE, "plan", 1, x -> x.plan(5));
        refused(NO_LAKE, "feasts", 1, x -> x.feasts(5));
        refused(NO_LAKE, "value", 1, x -> x.value(5));
        refused(NO_LAKE, "kingCuts", 1, x -> x.kingCuts(0));
        refused(NO_LAKE, "safest", 1, x -> x.safest(5));
        refused(NO_LAKE, "eaten", 1, x -> x.eaten(65537, 21));
        refused(NO_LAKE, "sunkAt", 1, x -> x.sunkAt(65537, 21));
        refused(NO_LAKE, "seed", 1, x -> bit(x.seed(65537)));
    }

    void termsIV_aNumberGoesAheadOfNotSo() {
        refused(THREE, "dry", 2, x -> x.dry(1, 5, false));
        refused(THREE, "mean", 2, x -> x.mean(1, 5, false));
        refused(THREE, "losses", 2, x -> x.losses(1, 5, false));
    }

    void termsIV_aNumberGoesAheadOfAFault() {
        CorkStreet x = new CorkStreet();
        Due.feed(x, "boat");
        refused(x, "lake(21)", 2, y -> y.lake(21));
        due.is("lake(20)", x.lake(20), NONE);
        due.is("trouble()", x.trouble(), 4);
    }

    void termsIV_heightsAreToldAnd1000() {
        String low = "lake mice 0;house a north weight 5";
        answers(low, "house(0, 3)", 995, x -> x.house(0, 3));
        answers(low, "heightIn(0, 0)", 995, x -> x.heightIn(0, 0));
        answers(low, "weeks(0, 0, 0)", 995, x -> x.weeks(0, 0, 0));
        answers(low, "mean(0, 0, false)", 995, x -> x.mean(0, 0, false));
        answers(BARE, "a HEIGHT of 0", 1000, x -> x.house(0, 3));
    }
}
