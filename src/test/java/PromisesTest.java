import java.util.NoSuchElementException;

/** Each promise of the document by its number: ordinary inputs, the edges it names, and wrong inputs. */
public final class PromisesTest {
    /**
     * Lift above weights at first: ann 11 - 12, bob 8 - 13 (with gus), cid 11 - 9 (with what pat gave),
     * dot 4 - 2 (what sue gave, and may). The raft of the first three: -4 by 3, so -2.
     */
    private static final String STREET = "lake mice 25;house ann north weight 12;house bob south weight 7;"
            + "house cid north weight 9;house dot south weight 0;rope bob ann;rope bob cid;"
            + "corks ann red 3;corks ann soft 2;corks bob white 4;corks cid stale 2;corks cid fizzy 1;"
            + "guest gus weight 6 at bob;guest may weight 2 at dot;drinker pat red drinks 3;drinker sue white drinks 2;"
            + "feast dot week 0 high 2;feast ann week 2 high 1;feast dot week 9 high 3;"
            + "gave pat cid 1;gave sue dot 2;seen dot over 2;seen bob below 3";
    private static final String TWO = "lake mice 5;house a north weight 5;house b south weight 5";
    private static final int LEAST = Integer.MIN_VALUE;
    private static final int MOST = Integer.MAX_VALUE;

    private final Due due = new Due();

    public static void main(String[] args) {
        PromisesTest test = new PromisesTest();
        test.theLake();
        test.lakeBehindLake();
        test.wholeTape();
        test.theForm();
        test.likeWords();
        test.theNames();
        test.theBounds();
        test.theRoom();
        test.theNow();
        test.weeksToCome();
        test.anAunt();
        test.plans();
        test.feasts();
        test.hoarders();
        test.kingAndVillage();
        test.mice();
        test.weeksByDraws();
        test.acts();
        test.undoing();
        test.images();
        test.whatIsTold();
        test.withoutLake();
        test.eachAlone();
        test.due.end();
    }

    private void fault(String text, int number, int place) {
        CorkStreet x = Due.lakeOf(STREET);
        due.refused("lake of " + text, x, Due.lake(x, text), 4);
        due.is("fault of " + text, x.fault(), number);
        due.is("where of " + text, x.where(), place);
        due.is("houses behind the refused " + text, x.size(1), 4);
        due.is("tape behind " + text, x.size(12), 0);
    }

    /** A FAULT at the place where its token stands, behind two houses. */
    private void faultAt(String lines, String token, int number) {
        String text = TWO + ";" + lines;
        fault(text, number, text.length() - token.length());
    }

    private void noFault(String text, int houses) {
        CorkStreet x = new CorkStreet();
        due.fine("lake of " + text, x, Due.lake(x, text), houses);
        due.is("fault of " + text, x.fault(), 0);
        due.is("where of " + text, x.where(), CorkStreet.NONE);
    }

    // Promises 1 to 5.
    private void theLake() {
        CorkStreet x = new CorkStreet();
        due.is("trouble of a new object", x.trouble(), 0);
        due.is("fault of a new object", x.fault(), 0);
        due.is("where of a new object", x.where(), -1);
        due.is("houses of a new object", x.size(1), 0);
        due.is("tape of a new object", x.size(12), 0);
        due.refused("lake(1) of an empty tape", x, x.lake(1), 2);
        due.refused("lake(-1)", x, x.lake(-1), 2);
        due.refused("lake of the least", x, x.lake(LEAST), 2);
        due.refused("lake of the most", x, x.lake(MOST), 2);
        due.is("fault behind 2 alone", x.fault(), 0);
        for (int i = 1; i <= 50; i++) {
            due.is("feed " + i, x.feed(-1, 0, MOST, LEAST, 32), 20 * i);
        }
        due.is("feed beyond 1,000", x.feed(0, 0, 0, 0, 0), -1);
        due.is("trouble behind feed", x.trouble(), 2);
        due.is("bytes", x.size(12), 1000);
        due.refused("lake(1001)", x, x.lake(1001), 2);
        due.is("the tape stays by 2", x.size(12), 1000);
        due.refused("lake(1000) of no text", x, x.lake(1000), 4);
        due.is("the tape is empty then", x.size(12), 0);
        due.is("fault", x.fault(), 1);
        due.is("where", x.where(), 0);
        due.refused("lake(5)", x, x.lake(5), 2);
        due.is("fault stays by 2", x.fault(), 1);
        due.is("where by 2", x.where(), -1);

        // "lake" in bytes, the highest first; only the first n bytes count.
        due.is("feed", x.feed(0x6c616b65, 0x206d6963, 0x65203930, 0x3b686f75, 0x73652061), 20);
        due.is("feed", x.feed(0x20736f75, 0x74682077, 0x65696768, 0x74203132, 0x3b212121), 40);
        due.fine("lake(36)", x, x.lake(36), 1);
        due.is("fault without one", x.fault(), 0);
        due.is("where without one", x.where(), -1);
        due.is("mice", x.size(0), 90);
        due.is("weight", x.house(0, 1), 12);
        due.is("side", x.house(0, 0), 1);
        x.week();
        x.seed(7);
        x.image();
        Due.feed(x, "lake mice");
        due.refused("a lake with a fault", x, x.lake(9), 4);
        due.is("place of the end", x.where(), 9);
        due.is("feed behind 4", x.feed(0, 0, 0, 0, 0), 20);
        due.is("where behind feed, which is never refused by a number", x.where(), 9);
        due.is("the week stays", x.size(8), 1);
        due.is("what can be undone stays", x.size(10), 1);
        due.is("IMAGES stay", x.size(11), 1);
        due.is("SEED stays", x.size(9), 7);
        due.fine("under", x, x.under(), 1);
        due.is("where behind another call", x.where(), -1);
        due.is("fault behind another call", x.fault(), 1);
        due.refused("lake(0)", x, x.lake(0), 4);
        due.is("where of lake(0)", x.where(), 0);
        due.fine("another lake", x, Due.lake(x, STREET), 4);
        x.cut(1);
        x.week();
        x.image();
        due.fine("the same lake", x, Due.lake(x, STREET), 4);
        due.is("rope tied", x.rope(1, 2), 1);
        due.is("week 0", x.size(8), 0);
        due.is("SEED 0", x.size(9), 0);
        due.is("nothing to undo", x.size(10), 0);
        due.is("no IMAGES", x.size(11), 0);
        due.is("corks as told", x.corks(0, 0), 3);
        due.refused("back to an image of the former lake", x, x.back(0), 1);
    }

    /** Nothing of a lake is left in the next one, nor in the one behind that. */
    private void lakeBehindLake() {
        CorkStreet x = Due.lakeOf(STREET);
        for (int i = 0; i < 3; i++) {
            due.fine("a small lake", x, Due.lake(x, "lake mice 0;house a south weight 0"), 1);
            for (int what = 0; what <= 12; what++) {
                due.is("size(" + what + ") of it", x.size(what), what == 1 ? 1 : 0);
            }
            for (int kind = 0; kind < 5; kind++) {
                due.is("its corks", x.corks(0, kind), 0);
            }
            due.is("its side", x.house(0, 0), 1);
            due.is("its raft", x.house(0, 4), 1);
            due.is("its guests", x.house(0, 5), 0);
            due.is("its height", x.house(0, 3), 1000);
            due.is("its sets", x.sets(), 1);
            due.refused("its rope", x, x.rope(0, 0), 1);
            due.refused("its guest", x, x.guest(0, 0), 1);
            due.refused("its drinker", x, x.planDays(0, 1), 1);
            due.refused("a fault behind much", x, Due.lake(x, STREET + ";"), 4);
            due.refused("a name of a former text", x, Due.lake(x, "lake mice 0;corks ann"), 4);
            due.is("isn't told", x.fault(), 2);
            due.is("still small", x.size(1), 1);
        }
    }

    /** A text up to the last byte that THE TAPE has room for. */
    private void wholeTape() {
        StringBuilder text = new StringBuilder("lake mice 7;house a north weight 3;corks a red");
        while (text.length() < 999) {
            text.append(' ');
        }
        text.append('9');
        CorkStreet x = new CorkStreet();
        due.fine("lake(1000)", x, Due.lake(x, text.toString()), 1);
        due.is("corks by the last byte", x.corks(0, 0), 9);
        text.setCharAt(999, ';');
        due.refused("lake(1000) with a fault", x, Due.lake(x, text.toString()), 4);
        due.is("where", x.where(), 999);
        text.setCharAt(999, ' ');
        due.refused("lake(1000) without an end", x, Due.lake(x, text.toString()), 4);
        due.is("where", x.where(), 1000);
    }

    /** Words that are alike but for a letter are other words, and so are names. */
    private void likeWords() {
        String text = "lake mice 5;house a north weight 5;house b south weight 5;rope a b;corks a red 1;corks a stale 1;"
                + "corks a soft 1;corks a white 1;corks a fizzy 1;guest g weight 5 at a;drinker d red drinks 1;drinker e white drinks 1;"
                + "drinker f fizzy drinks 1;feast a week 1 high 1;gave d a 1;seen a over 1;seen b below 1";
        noFault(text, 2);
        for (int at = 0; at < text.length(); at++) {
            boolean single = at == 0 || !letter(text, at - 1) && !letter(text, at + 1);
            if (letter(text, at) && !single || at == 0) {
                int first = at;
                while (first > 0 && letter(text, first - 1)) {
                    first--;
                }
                fault(text.substring(0, at) + (char) ('a' + (text.charAt(at) - 'a' + 13) % 26) + text.substring(at + 1), 1, first);
            }
        }
        String[] names = {"a", "z", "aa", "az", "ba", "ab", "zz", "aaa", "abcdefgh", "bbcdefgh", "abcdefgi"};
        for (String one : names) {
            for (String other : names) {
                String two = "lake mice 5;house " + one + " north weight 5;house ";
                if (one.equals(other)) {
                    fault(two + other, 3, two.length());
                } else {
                    noFault(two + other + " south weight 5;rope " + other + " " + one, 2);
                }
            }
        }
    }

    private static boolean letter(String text, int at) {
        return at >= 0 && at < text.length() && Character.isLowerCase(text.charAt(at));
    }

    private void theForm() {
        noFault("lake mice 0;house a north weight 0", 1);
        noFault("   lake   mice100;house   a north weight99   ;   house lakes south weight 099  ", 2);
        noFault("lake mice 1;house abcdefgh north weight 1;house abcdefgi south weight 1", 2);
        noFault("lake mice 1;house red north weight 1;corks red red 1;house north north weight 1;rope north red", 2);
        noFault("lake mice 1;house mice north weight 1;house at south weight 1;guest weight weight 1 at at", 2);
        fault("", 1, 0);
        fault("   ", 1, 3);
        fault(";", 1, 0);
        fault("5", 1, 0);
        fault("boat mice 5", 1, 0);
        fault("Lake mice 5", 1, 0);
        fault("lake", 1, 4);
        fault("lake ", 1, 5);
        fault("lake mouse 5", 1, 5);
        fault("lake mice", 1, 9);
        fault("lake mice x", 1, 10);
        fault("lake mice 1000", 1, 10);
        fault("lake mice 0005", 1, 10);
        fault("lake mice 5;", 1, 12);
        fault("lake mice 5;;", 1, 12);
        fault("lake mice 5 5", 1, 12);
        fault("lake mice 5\t", 1, 11);
        fault("lake mice 5\n;house a north weight 5", 1, 11);
        fault("lake mice 5;boat", 1, 12);
        fault("lake mice 5;house", 1, 17);
        fault("lake mice 5;house 5", 1, 18);
        fault("lake mice 5;house abcdefghi", 1, 18);
        fault("lake mice 5;house a\u00e9", 1, 19);
        fault("lake mice 5;house a north weight 5;house b south weight 5 house", 1, 58);
        faultAt("house c east", "east", 1);
        faultAt("house c north heavy", "heavy", 1);
        faultAt("house c north weight x", "x", 1);
        faultAt("house c north weight 1000", "1000", 1);
        faultAt("rope a 5", "5", 1);
        faultAt("rope a", "", 1);
        faultAt("rope a b a", "a", 1);
        faultAt("corks a blue", "blue", 1);
        faultAt("corks a red red", "red", 1);
        faultAt("guest g heavy", "heavy", 1);
        faultAt("guest g weight 5 in", "in", 1);
        faultAt("drinker d stale", "stale", 1);
        faultAt("drinker d soft", "soft", 1);
        faultAt("drinker d blue", "blue", 1);
        faultAt("drinker d red eats", "eats", 1);
        faultAt("feast a day", "day", 1);
        faultAt("feast a week 1 low", "low", 1);
        faultAt("drinker d red drinks 1;gave d a red", "red", 1);
        faultAt("seen a at", "at", 1);
        faultAt("seen a over below", "below", 1);
        for (String word : new String[] {"lake", "house", "rope", "corks", "guest", "drinker", "feast", "gave", "seen"}) {
            faultAt("house " + word, word, 1);
            faultAt("guest " + word, word, 1);
            faultAt("drinker " + word, word, 1);
            faultAt("rope a " + word, word, 1);
            faultAt("corks " + word, word, 1);
        }
        fault("house a", 6, 0);
        fault("  seen", 6, 2);
        fault("lake mice 5", 6, 11);
        fault("lake mice 5  ", 6, 13);
        fault("lake mice 5;drinker d red drinks 1", 6, 34);
    }

    private void theNames() {
        faultAt("rope c", "c", 2);
        faultAt("rope a c", "c", 2);
        faultAt("corks c", "c", 2);
        faultAt("guest g weight 5 at g", "g", 2);
        faultAt("guest g weight 5 at c", "c", 2);
        faultAt("drinker d red drinks 1;rope a d", "d", 2);
        faultAt("drinker d red drinks 1;corks d", "d", 2);
        faultAt("drinker d red drinks 1;feast d", "d", 2);
        faultAt("drinker d red drinks 1;seen d", "d", 2);
        faultAt("drinker d red drinks 1;gave d d", "d", 2);
        faultAt("gave a", "a", 2);
        faultAt("gave d", "d", 2);
        faultAt("guest g weight 1 at a;gave g", "g", 2);
        faultAt("feast c", "c", 2);
        faultAt("seen c", "c", 2);
        faultAt("house a", "a", 3);
        faultAt("guest a", "a", 3);
        faultAt("drinker b", "b", 3);
        faultAt("drinker d red drinks 1;guest d", "d", 3);
        faultAt("guest g weight 1 at a;house g", "g", 3);
        faultAt("rope a a", "a", 3);
        faultAt("rope a b;rope a b", "b", 3);
        faultAt("rope a b;rope b a", "a", 3);
        faultAt("corks a red 3;corks b red 3;corks a white 3;corks a red", "red", 3);
        faultAt("corks a fizzy 1;corks a fizzy", "fizzy", 3);
        faultAt("seen a over 1;seen b over 1;seen a", "a", 3);
        faultAt("seen a below 1;seen a", "a", 3);
        faultAt("lake", "lake", 3);
    }

    private void theBounds() {
        fault("lake mice 101", 4, 10);
        fault("lake mice 999;;", 4, 10);
        faultAt("house c north weight 100", "100", 4);
        faultAt("corks a red 0", "0", 4);
        faultAt("corks a red 31", "31", 4);
        faultAt("guest g weight 0", "0", 4);
        faultAt("guest g weight 51", "51", 4);
        faultAt("drinker d red drinks 0", "0", 4);
        faultAt("drinker d red drinks 10", "10", 4);
        faultAt("feast a week 10", "10", 4);
        faultAt("feast a week 9 high 51", "51", 4);
        faultAt("drinker d red drinks 1;gave d a 0", "0", 4);
        faultAt("drinker d red drinks 1;gave d a 21", "21", 4);
        faultAt("seen a over 201", "201", 4);
        faultAt("seen a below 201", "201", 4);
        faultAt("seen a below 0", "0", 4);
        noFault(TWO + ";corks a red 1;corks b red 30;guest g weight 1 at a;guest k weight 50 at b;drinker d red drinks 1;"
                + "drinker e white drinks 9;feast a week 0 high 0;feast a week 9 high 50;gave d a 1;gave e b 20;"
                + "seen a over 0;seen b below 1", 2);
        noFault(TWO + ";seen a over 200;seen b below 200", 2);
    }

    private void theRoom() {
        String five = TWO + ";house c north weight 1;house d north weight 1;house e north weight 1";
        noFault(five, 5);
        fault(five + ";house", 5, five.length() + 1);
        fault(five + ";house a", 5, five.length() + 1);
        String ropes = five + ";rope a b;rope a c;rope a d;rope a e;rope b c";
        noFault(ropes, 5);
        fault(ropes + ";rope a a", 5, ropes.length() + 1);
        String guests = TWO + ";guest g weight 1 at a;guest h weight 1 at a;guest i weight 1 at b";
        noFault(guests, 2);
        fault(guests + "; guest g", 5, guests.length() + 2);
        String drinkers = TWO + ";drinker d red drinks 1;drinker e white drinks 1;drinker f fizzy drinks 1";
        noFault(drinkers, 2);
        fault(drinkers + ";drinker", 5, drinkers.length() + 1);
        String feasts = TWO + ";feast a week 1 high 1;feast a week 1 high 1;feast b week 1 high 1;feast a week 2 high 1";
        noFault(feasts, 2);
        fault(feasts + ";feast c", 5, feasts.length() + 1);
        String gave = drinkers + ";gave d a 1;gave d a 1;gave e b 1;gave f a 2";
        noFault(gave, 2);
        fault(gave + ";gave x", 5, gave.length() + 1);
        String all = ropes.replace("weight 1", "weight 11") + ";corks a red 1;corks a stale 1;corks a soft 1;corks a white 1;corks a fizzy 1";
        noFault(all, 5);
    }

    // Promises 6 to 13.
    private void theNow() {
        CorkStreet x = Due.lakeOf(STREET);
        int[][] houses = {{0, 12, 11, 998, 7, 0}, {1, 13, 8, 998, 7, 1}, {0, 9, 11, 998, 7, 0}, {1, 2, 4, 1002, 8, 2}};
        int[][] corks = {{3, 0, 2, 0, 0}, {0, 0, 0, 4, 0}, {1, 2, 0, 0, 1}, {0, 0, 0, 2, 0}};
        for (int h = 0; h < 4; h++) {
            for (int i = 0; i < 6; i++) {
                due.fine("house(" + h + ", " + i + ")", x, x.house(h, i), houses[h][i]);
            }
            for (int i = 0; i < 5; i++) {
                due.fine("corks(" + h + ", " + i + ")", x, x.corks(h, i), corks[h][i]);
            }
        }
        for (int wrong : new int[] {-1, 4, LEAST, MOST}) {
            due.refused("house", x, x.house(wrong, 0), 1);
            due.refused("corks", x, x.corks(wrong, 0), 1);
            due.refused("corks, both wrong", x, x.corks(wrong, 9), 1);
            due.refused("tilt", x, x.tilt(wrong), 1);
            due.refused("guest", x, x.guest(wrong, 0), 1);
            due.refused("rope", x, x.rope(wrong, 0), 1);
        }
        for (int wrong : new int[] {-1, 6, LEAST, MOST}) {
            due.refused("house what", x, x.house(0, wrong), 1);
            due.refused("guest what", x, x.guest(0, wrong), 1);
            due.refused("rope what", x, x.rope(0, wrong), 1);
            due.refused("corks kind", x, x.corks(0, wrong), 2);
        }
        due.refused("corks kind 5", x, x.corks(0, 5), 2);
        due.refused("guest what 2", x, x.guest(0, 2), 1);
        due.refused("rope what 3", x, x.rope(0, 3), 1);
        due.refused("guest 2", x, x.guest(2, 0), 1);
        due.refused("rope 2", x, x.rope(2, 0), 1);
        due.fine("guest(0, 0)", x, x.guest(0, 0), 6);
        due.fine("guest(0, 1)", x, x.guest(0, 1), 1);
        due.fine("guest(1, 0)", x, x.guest(1, 0), 2);
        due.fine("guest(1, 1)", x, x.guest(1, 1), 3);
        due.fine("rope(0, 0)", x, x.rope(0, 0), 0);
        due.fine("rope(0, 1)", x, x.rope(0, 1), 1);
        due.fine("rope(0, 2)", x, x.rope(0, 2), 1);
        due.fine("rope(1, 0)", x, x.rope(1, 0), 1);
        due.fine("rope(1, 1)", x, x.rope(1, 1), 2);
        due.fine("under", x, x.under(), 7);
        due.fine("lowest", x, x.lowest(), 0);
        due.fine("rafts", x, x.rafts(), 2);
        due.fine("tilt(0)", x, x.tilt(0), 7);
        due.fine("tilt(1)", x, x.tilt(1), 7);
        due.fine("tilt(3)", x, x.tilt(3), 0);
        x.cut(0);
        due.fine("rope cut", x, x.rope(0, 2), 0);
        due.fine("raft of 0", x, x.house(0, 4), 1);
        due.fine("raft of 2", x, x.house(2, 4), 6);
        due.fine("height of 0", x, x.house(0, 3), 999);
        due.fine("height of 1: -3 by 2, downwards", x, x.house(1, 3), 998);
        due.fine("lowest, cut", x, x.lowest(), 1);
        due.fine("rafts, cut", x, x.rafts(), 3);
        due.fine("tilt(0), cut", x, x.tilt(0), 0);
        due.fine("tilt(2), cut", x, x.tilt(2), 7);
        x.move(0, 3);
        due.fine("weight at 3", x, x.house(3, 1), 8);
        due.fine("guests at 3", x, x.house(3, 5), 3);
        due.fine("height at 3", x, x.house(3, 3), 996);
        due.fine("height at 1: 3 by 2", x, x.house(1, 3), 1001);
        due.fine("under", x, x.under(), 9);
        due.fine("lowest", x, x.lowest(), 3);
        // A raft that a longer way joins, told from its ends.
        CorkStreet y = Due.lakeOf("lake mice 0;house a north weight 0;house b north weight 1;house c north weight 2;"
                + "house d north weight 3;house e north weight 4;rope e a;rope d b;rope c d;rope b a");
        due.fine("all one", y, y.rafts(), 1);
        due.fine("all bits", y, y.house(2, 4), 31);
        due.fine("-10 by 5", y, y.house(4, 3), 998);
        y.cut(1);
        due.fine("two", y, y.rafts(), 2);
        due.fine("bits of c", y, y.house(2, 4), 12);
        due.fine("bits of a", y, y.house(0, 4), 19);
        due.fine("-5 by 3", y, y.house(0, 3), 998);
        due.fine("-5 by 2", y, y.house(3, 3), 997);
    }

    // Promises 14 to 17.
    private void weeksToCome() {
        CorkStreet x = Due.lakeOf(STREET);
        // The raft's lift above its weights: -4, -12, -18, -22, -22 ..
        int[] raft = {998, 996, 994, 992, 992, 992};
        for (int n = 0; n <= 5; n++) {
            due.fine("heightIn(2, " + n + ")", x, x.heightIn(2, n), raft[n]);
            due.fine("heightIn(3, " + n + ")", x, x.heightIn(3, n), 1002);
            due.fine("underIn(" + n + ")", x, x.underIn(n), 7);
        }
        due.fine("heightIn(0, 20)", x, x.heightIn(0, 20), 992);
        due.fine("underIn(20)", x, x.underIn(20), 7);
        for (int wrong : new int[] {-1, 21, LEAST, MOST}) {
            due.refused("heightIn", x, x.heightIn(0, wrong), 2);
            due.refused("underIn", x, x.underIn(wrong), 2);
            due.refused("heightIn, both wrong", x, x.heightIn(4, wrong), 1);
            due.refused("sinks", x, x.sinks(wrong), 1);
        }
        due.refused("heightIn, no house", x, x.heightIn(4, 0), 1);
        due.refused("sinks, no house", x, x.sinks(4), 1);
        due.fine("sinks(0)", x, x.sinks(0), 0);
        due.fine("sinks(3)", x, x.sinks(3), -2);
        due.is("corks stay", x.corks(0, 0), 3);
        due.is("the week stays", x.size(8), 0);

        CorkStreet y = Due.lakeOf("lake mice 100;house a north weight 2;house b north weight 3;house c south weight 1;"
                + "corks a red 1;corks b red 1;corks c red 1;feast a week 1 high 0;feast b week 0 high 0;feast c week 2 high 0");
        due.fine("sinks(0)", y, y.sinks(0), 2);
        due.fine("sinks(1)", y, y.sinks(1), 1);
        due.fine("sinks(2)", y, y.sinks(2), 3);
        due.fine("underIn(0)", y, y.underIn(0), 0);
        due.fine("underIn(1)", y, y.underIn(1), 2);
        due.fine("underIn(2)", y, y.underIn(2), 3);
        due.fine("underIn(3)", y, y.underIn(3), 7);
        due.fine("wetFeast", y, y.wetFeast(), -2);
        y.week();
        due.fine("wetFeast from a later NOW", y, y.wetFeast(), 0);

        due.fine("wetFeast of the street", x, x.wetFeast(), 1);
        x.move(0, 3);
        due.fine("wetFeast with a guest more", x, x.wetFeast(), 0);
        x.move(0, 1);
        for (int i = 0; i < 12; i++) {
            x.drink(1, 0);
        }
        due.fine("high enough for two of them", x, x.wetFeast(), 2);
        x.drink(1, 3);
        due.fine("for all", x, x.wetFeast(), -2);
        due.fine("no feast", x, Due.lakeOf(TWO).wetFeast(), -2);
    }

    // Promises 18 to 21.
    private void anAunt() {
        CorkStreet x = Due.lakeOf(STREET);
        due.fine("aunt(0, 0, 0): 4 by 3", x, x.aunt(0, 0, 0), 2);
        due.fine("aunt(1, 0, 1): 4 by 2", x, x.aunt(1, 0, 1), 2);
        due.fine("aunt(2, 0, 2): 4 by 1", x, x.aunt(2, 0, 2), 4);
        due.fine("aunt(2, 1, 3): 5 by 2", x, x.aunt(2, 1, 3), 3);
        due.fine("aunt(2, 99, 4): 103 by 4", x, x.aunt(2, 99, 4), 26);
        due.fine("aunt(3, 2, 0)", x, x.aunt(3, 2, 0), 0);
        due.fine("aunt(3, 3, 0)", x, x.aunt(3, 3, 0), 1);
        due.refused("aunt, no house", x, x.aunt(4, 0, 0), 1);
        due.refused("aunt, no house, too heavy", x, x.aunt(-1, 100, 5), 1);
        due.refused("aunt too heavy", x, x.aunt(0, 100, 0), 2);
        due.refused("aunt too light", x, x.aunt(0, -1, 0), 2);
        due.refused("aunt of no kind", x, x.aunt(0, 0, 5), 2);
        due.refused("aunt of no kind", x, x.aunt(0, 0, -1), 2);
        CorkStreet heavy = Due.lakeOf("lake mice 0;house a north weight 99;house b north weight 99;house c north weight 99;"
                + "rope a b;rope b c;guest g weight 3 at c");
        due.fine("300 are enough", heavy, heavy.aunt(0, 0, 2), 300);
        due.fine("300 aren't", heavy, heavy.aunt(0, 1, 2), -2);
        due.fine("151 white ones", heavy, heavy.aunt(0, 1, 3), 151);

        // Heights 4 (a and b, 8 by 2), 5 (c), 2 (d).
        CorkStreet y = Due.lakeOf("lake mice 0;house d north weight 0;house a north weight 0;house b north weight 0;"
                + "house c south weight 0;rope a b;corks d white 1;corks a white 4;corks c white 2;corks c soft 1;"
                + "guest g weight 1 at d;guest k weight 6 at d");
        due.fine("bestStay(0), the first", y, y.bestStay(0), 0);
        y.move(1, 3);
        due.fine("heights d 1, raft 4, c -1: d would be lower", y, y.bestStay(3), 1);
        y.undo();
        y.move(0, 3);
        y.move(1, 3);
        due.fine("lowest is c: anywhere else, the first", y, y.bestStay(4), 0);
        due.fine("bestStay(9): the raft bears it", y, y.bestStay(9), 1);
        due.refused("bestStay(-1)", y, y.bestStay(-1), 2);
        due.refused("bestStay(100)", y, y.bestStay(100), 2);
        due.fine("bestStay(99)", y, y.bestStay(99), 1);
        due.fine("bestMove(0)", y, y.bestMove(0), 0);
        due.fine("bestMove(1)", y, y.bestMove(1), 1);
        y.move(1, 2);
        due.fine("bestMove(1): the first of the raft where it is", y, y.bestMove(1), 1);
        due.refused("bestMove(2)", y, y.bestMove(2), 1);
        due.refused("bestMove(-1)", y, y.bestMove(-1), 1);
        CorkStreet half = Due.lakeOf("lake mice 0;house a north weight 0;house b north weight 0;guest g weight 4 at b;"
                + "corks a white 1;corks b white 3");
        due.fine("bestMove: its weight isn't where it was", half, half.bestMove(0), 1);
        CorkStreet alone = Due.lakeOf("lake mice 0;house a north weight 0;house b north weight 9;guest g weight 1 at a");
        due.fine("bestMove where it is", alone, alone.bestMove(0), 0);

        CorkStreet z = Due.lakeOf("lake mice 0;house a north weight 9;house b north weight 0;house c north weight 0;"
                + "rope b c;rope a b;corks b white 1;corks c white 1");
        due.fine("bestCut", z, z.bestCut(), 1);
        z.cut(1);
        due.fine("bestCut, none more", z, z.bestCut(), -2);
        z.tie(1);
        due.fine("bestCut, tied again", z, z.bestCut(), 1);
        CorkStreet even = Due.lakeOf("lake mice 0;house a north weight 9;house b north weight 0;house c north weight 0;"
                + "rope a c;rope a b;corks b white 1;corks c white 1");
        due.fine("bestCut, of like ones the first", even, even.bestCut(), 0);
        even.cut(0);
        due.fine("bestCut, the other one", even, even.bestCut(), 1);
        CorkStreet worse = Due.lakeOf("lake mice 0;house a north weight 2;house b north weight 0;rope a b;corks b white 1");
        due.fine("bestCut by which one sinks", worse, worse.bestCut(), -2);
        due.fine("bestCut without ropes", worse, Due.lakeOf(TWO).bestCut(), -2);
    }

    // Promises 22 to 24.
    private void plans() {
        CorkStreet x = Due.lakeOf(STREET);
        // 4 are lacking: pat's 3 red lift 9 in a day, sue's 2 white 4.
        for (int n = 1; n <= 4; n++) {
            due.fine("plan(" + n + ")", x, x.plan(n), 2);
            due.fine("planDays(0, " + n + ")", x, x.planDays(0, n), 0);
            due.fine("planDays(1, " + n + ")", x, x.planDays(1, n), 1);
            due.fine("planHouse(0, " + n + ")", x, x.planHouse(0, n), -2);
            due.fine("planHouse(1, " + n + ")", x, x.planHouse(1, n), 0);
        }
        for (int wrong : new int[] {0, 5, -1, LEAST, MOST}) {
            due.refused("plan", x, x.plan(wrong), 2);
            due.refused("planDays", x, x.planDays(0, wrong), 2);
            due.refused("planHouse", x, x.planHouse(0, wrong), 2);
            due.refused("planDays, both wrong", x, x.planDays(2, wrong), 1);
            due.refused("planHouse, both wrong", x, x.planHouse(2, wrong), 1);
        }
        due.refused("planDays(2, 1)", x, x.planDays(2, 1), 1);
        due.refused("planDays(-1, 1)", x, x.planDays(-1, 1), 1);
        due.refused("planHouse(2, 1)", x, x.planHouse(2, 1), 1);
        due.refused("planHouse(-1, 1)", x, x.planHouse(-1, 1), 1);
        due.is("nothing is drunk by a plan", x.corks(0, 3), 0);

        // 14 lacking at b: 4 days of white, or 2 of red with 1 of fizzy, or ..
        CorkStreet y = Due.lakeOf("lake mice 0;house a north weight 0;house b north weight 14;drinker p white drinks 2;"
                + "drinker q red drinks 2;drinker r fizzy drinks 3");
        due.fine("plan(1)", y, y.plan(1), 5);
        due.is("white none", y.planDays(0, 1), 0);
        due.is("red a day", y.planDays(1, 1), 1);
        due.is("fizzy a day", y.planDays(2, 1), 1);
        due.is("white nowhere", y.planHouse(0, 1), -2);
        due.is("red at b", y.planHouse(1, 1), 1);
        due.is("fizzy at b", y.planHouse(2, 1), 1);
        due.fine("plan(2)", y, y.plan(2), 5);
        // Of like ones the fewer days of the first drinker: 2 days of the second.
        CorkStreet like = Due.lakeOf("lake mice 0;house a north weight 0;house b north weight 4;house c north weight 0;rope c b;"
                + "drinker p white drinks 1;drinker q white drinks 1");
        due.fine("plan(1), both", like, like.plan(1), 2);
        due.is("p", like.planDays(0, 1), 1);
        due.is("q", like.planDays(1, 1), 1);
        due.fine("plan(2), one", like, like.plan(2), 2);
        due.is("p none", like.planDays(0, 2), 0);
        due.is("q two", like.planDays(1, 2), 2);
        due.is("q at b, the first of its raft", like.planHouse(1, 2), 1);
        due.is("p nowhere", like.planHouse(0, 2), -2);
        // Two rafts, two drinkers alike: the first drinker at the first house.
        CorkStreet two = Due.lakeOf("lake mice 0;house a north weight 0;house b north weight 2;house c north weight 2;"
                + "drinker p white drinks 1;drinker q white drinks 1");
        due.fine("plan(1) of two", two, two.plan(1), 2);
        due.is("p at b", two.planHouse(0, 1), 1);
        due.is("q at c", two.planHouse(1, 1), 2);
        due.is("p a day", two.planDays(0, 1), 1);
        // Whom to take is not whom to take first: only the strong one can lift c.
        CorkStreet cross = Due.lakeOf("lake mice 0;house b north weight 2;house c north weight 36;"
                + "drinker p fizzy drinks 9;drinker q white drinks 1");
        due.fine("plan(1) across", cross, cross.plan(1), 10);
        due.is("p at c", cross.planHouse(0, 1), 1);
        due.is("q at b", cross.planHouse(1, 1), 0);
        // More rafts under than drinkers; corks that are too few.
        CorkStreet none = Due.lakeOf("lake mice 0;house b north weight 1;house c north weight 1;drinker p fizzy drinks 9");
        due.fine("no plan", none, none.plan(4), -2);
        due.fine("no plan, days", none, none.planDays(0, 4), -2);
        due.fine("no plan, house", none, none.planHouse(0, 4), -2);
        CorkStreet few = Due.lakeOf("lake mice 0;house b north weight 9;drinker p white drinks 1;drinker q soft drinks 1");
        due.refused("soft isn't drunk", few, few.plan(4), 1);
        few = Due.lakeOf("lake mice 0;house b north weight 9;drinker p white drinks 1");
        due.fine("4 lift 8", few, few.plan(4), -2);
        few.drink(0, 0);
        due.fine("4 more lift 10", few, few.plan(4), 4);
        due.is("on 4 days", few.planDays(0, 4), 4);
        due.fine("3 more aren't", few, few.plan(2), -2);
        few.drink(0, 0);
        few.drink(0, 0);
        few.drink(0, 0);
        few.drink(0, 0);
        due.fine("nobody under", few, few.plan(1), 0);
        due.fine("no days", few, few.planDays(0, 1), 0);
        due.fine("no house", few, few.planHouse(0, 1), -2);
        due.fine("nobody under, no drinker", few, Due.lakeOf("lake mice 0;house b north weight 0").plan(1), 0);
        due.fine("under, no drinker", few, Due.lakeOf(TWO).plan(4), -2);
    }

    // Promises 25 and 26.
    private void feasts() {
        CorkStreet x = Due.lakeOf(STREET);
        // In week 2 the raft lacks 18 and 3 by the feast: 21; dot lacks 1 in week 9, so a drinker is needed there.
        due.fine("feasts(1)", x, x.feasts(1), -2);
        due.fine("feasts(4)", x, x.feasts(4), -2);
        due.fine("feastHouse(0, 4)", x, x.feastHouse(0, 4), -2);
        x.drink(1, 3);
        // Now 21 for the raft: sue's white, 4 a day, or pat's red, 3 a day then (9 at first).
        due.fine("feasts(4) with dot dry: 4 days of white, 2 of red", x, x.feasts(4), 14);
        due.is("pat at ann", x.feastHouse(0, 4), 0);
        due.is("sue at ann", x.feastHouse(1, 4), 0);
        due.fine("feasts(3)", x, x.feasts(3), 15);
        due.fine("feasts(2)", x, x.feasts(2), -2);
        for (int wrong : new int[] {0, 5, -1, LEAST, MOST}) {
            due.refused("feasts", x, x.feasts(wrong), 2);
            due.refused("feastHouse", x, x.feastHouse(0, wrong), 2);
            due.refused("feastHouse, both wrong", x, x.feastHouse(2, wrong), 1);
        }
        due.refused("feastHouse(2, 1)", x, x.feastHouse(2, 1), 1);
        due.refused("feastHouse(-1, 1)", x, x.feastHouse(-1, 1), 1);

        // A feast in week 0 is a feast then; red corks are no help in week 3.
        CorkStreet y = Due.lakeOf("lake mice 100;house a south weight 0;house b north weight 0;feast b week 0 high 3;"
                + "drinker p red drinks 1;drinker q white drinks 1");
        due.fine("plan(1)", y, y.plan(1), 0);
        due.fine("feasts(1), red", y, y.feasts(1), 1);
        due.is("p at b", y.feastHouse(0, 1), 1);
        due.is("q nowhere", y.feastHouse(1, 1), -2);
        CorkStreet late = Due.lakeOf("lake mice 0;house a south weight 0;house b north weight 0;feast b week 3 high 1;"
                + "drinker p red drinks 1;drinker q white drinks 1");
        due.fine("feasts(1), white", late, late.feasts(1), 1);
        due.is("p nowhere", late.feastHouse(0, 1), -2);
        due.is("q at b", late.feastHouse(1, 1), 1);
        CorkStreet gone = Due.lakeOf("lake mice 0;house b north weight 0;feast b week 3 high 1;drinker p red drinks 9");
        due.fine("red is gone in week 3", gone, gone.feasts(4), -2);
        gone = Due.lakeOf("lake mice 0;house b north weight 0;feast b week 2 high 9;drinker p red drinks 9");
        due.fine("and soft in week 2", gone, gone.feasts(4), 9);
        CorkStreet two = Due.lakeOf("lake mice 0;house a south weight 0;house b north weight 0;feast b week 2 high 1;feast b week 1 high 3;"
                + "drinker p red drinks 1");
        due.fine("two days for 3 in week 1", two, two.feasts(4), 2);
        due.fine("a day is too few", two, two.feasts(1), -2);
        // A feast of a raft of two asks for twice its height.
        CorkStreet raft = Due.lakeOf("lake mice 0;house a south weight 0;house b north weight 0;rope a b;feast b week 9 high 4;"
                + "drinker q white drinks 1");
        due.fine("8 lift by 4", raft, raft.feasts(4), 4);
        due.fine("8 lift by 3", raft, raft.feasts(3), -2);
        due.is("at the first", raft.feastHouse(0, 4), 0);
        due.fine("no feasts, nobody under", raft, Due.lakeOf("lake mice 0;house a north weight 0").feasts(1), 0);
        CorkStreet under = Due.lakeOf("lake mice 0;house a north weight 2;house b north weight 0;feast b week 0 high 0;drinker q white drinks 1");
        due.fine("dry, but one is under", under, under.feasts(1), 1);
        due.is("where", under.feastHouse(0, 1), 0);
    }

    // Promises 27 to 33.
    private void hoarders() {
        // Dot is seen at 2, so sue gave; bob at -3: -4 less pat's 3 is -7, by 3 downwards -3: pat hoards.
        CorkStreet x = Due.lakeOf(STREET);
        due.fine("sets", x, x.sets(), 1);
        due.fine("setAt(0)", x, x.setAt(0), 1);
        due.refused("setAt(1)", x, x.setAt(1), 1);
        due.refused("setAt(-1)", x, x.setAt(-1), 1);
        due.refused("setAt of the most", x, x.setAt(MOST), 1);
        due.refused("setAt of the least", x, x.setAt(LEAST), 1);
        due.fine("could", x, x.could(), 1);
        due.fine("surely", x, x.surely(), 1);
        due.fine("ask", x, x.ask(), 0);
        due.fine("askLeaves", x, x.askLeaves(), 1);
        due.fine("judge", x, x.judge(), 1);
        // The LAKE as told at first, whatever is done.
        x.cut(0);
        x.move(0, 3);
        x.week();
        x.drink(0, 1);
        due.fine("sets, later", x, x.sets(), 1);
        due.fine("judge, later", x, x.judge(), 1);

        String three = "lake mice 0;house a north weight 4;house b south weight 0;drinker p white drinks 1;drinker q red drinks 1;"
                + "drinker r white drinks 1;";
        // p or r gave 1 to a, just one of them; q gave nothing that was seen.
        CorkStreet y = Due.lakeOf(three + "gave p a 1;gave r a 1;gave q b 1;seen a below 2");
        due.fine("sets", y, y.sets(), 4);
        int[] sets = {1, 3, 4, 6};
        for (int i = 0; i < 4; i++) {
            due.fine("setAt(" + i + ")", y, y.setAt(i), sets[i]);
        }
        due.refused("setAt(4)", y, y.setAt(4), 1);
        due.fine("could", y, y.could(), 7);
        due.fine("surely", y, y.surely(), 0);
        due.fine("ask", y, y.ask(), 0);
        due.fine("askLeaves", y, y.askLeaves(), 2);
        due.fine("judge", y, y.judge(), 0);
        // p surely, q or not: only of q something is left to be told.
        CorkStreet q = Due.lakeOf(three + "gave p a 1;gave p b 1;gave r b 2;seen b over 4;seen a below 4");
        due.fine("sets", q, q.sets(), 2);
        due.fine("setAt(0)", q, q.setAt(0), 1);
        due.fine("setAt(1)", q, q.setAt(1), 3);
        due.fine("could", q, q.could(), 3);
        due.fine("surely", q, q.surely(), 1);
        due.fine("ask", q, q.ask(), 1);
        due.fine("askLeaves", q, q.askLeaves(), 1);
        due.fine("judge, as told", q, q.judge(), 0);
        // One of p and q, but not both: what is in the first set isn't in all.
        CorkStreet either = Due.lakeOf("lake mice 0;house a north weight 4;drinker p white drinks 1;drinker q white drinks 1;"
                + "gave p a 1;gave q a 1;seen a below 2");
        due.fine("sets of either", either, either.sets(), 2);
        due.fine("surely neither", either, either.surely(), 0);
        due.fine("could be both", either, either.could(), 3);
        // Nothing was seen: all sets fit.
        CorkStreet all = Due.lakeOf(three + "gave p a 1");
        due.fine("all sets", all, all.sets(), 8);
        due.fine("the last set", all, all.setAt(7), 7);
        due.fine("ask of all", all, all.ask(), 0);
        due.fine("askLeaves of all", all, all.askLeaves(), 4);
        due.fine("judge of none seen", all, all.judge(), -2);
        // No set fits.
        CorkStreet no = Due.lakeOf(three + "gave p a 1;seen b over 0;seen a over 5");
        due.fine("no sets", no, no.sets(), 0);
        due.refused("no setAt(0)", no, no.setAt(0), 1);
        due.fine("no could", no, no.could(), 0);
        due.fine("no surely", no, no.surely(), 0);
        due.fine("no ask", no, no.ask(), -2);
        due.fine("no askLeaves", no, no.askLeaves(), -2);
        due.fine("judge", no, no.judge(), 1);
        // No drinker.
        CorkStreet dry = Due.lakeOf("lake mice 0;house a north weight 4;seen a below 4");
        due.fine("the empty set", dry, dry.sets(), 1);
        due.fine("setAt(0), empty", dry, dry.setAt(0), 0);
        due.fine("ask, no drinker", dry, dry.ask(), -2);
        due.fine("askLeaves, no drinker", dry, dry.askLeaves(), -2);
        due.fine("judge, all so", dry, dry.judge(), -2);
        // Below and over are just so, with all ropes tied and downwards.
        CorkStreet raft = Due.lakeOf("lake mice 0;house a north weight 7;house b north weight 0;rope a b;drinker p white drinks 1;"
                + "gave p b 1;seen b below 4");
        due.fine("-7 by 2", raft, raft.sets(), 1);
        due.fine("p", raft, raft.setAt(0), 1);
    }

    // Promises 34 and 35.
    private void kingAndVillage() {
        // A floats by the rope alone; b and c have 3 each.
        CorkStreet x = Due.lakeOf("lake mice 0;house a north weight 3;house b north weight 0;house c north weight 0;"
                + "rope b c;rope a b;corks b soft 3;corks c soft 3");
        due.fine("value(0)", x, x.value(0), 3);
        due.fine("value(1): he cuts a off", x, x.value(1), 2);
        due.fine("kingCuts(1)", x, x.kingCuts(1), 1);
        due.fine("value(2): one cork is too few", x, x.value(2), 2);
        due.fine("kingCuts(2)", x, x.kingCuts(2), 1);
        due.fine("value(3)", x, x.value(3), 2);
        due.fine("value(4): two corks", x, x.value(4), 3);
        due.fine("kingCuts(4): none is as good", x, x.kingCuts(4), -2);
        for (int wrong : new int[] {-1, 5, LEAST, MOST}) {
            due.refused("value", x, x.value(wrong), 2);
            due.refused("kingCuts", x, x.kingCuts(wrong), 2);
        }
        due.refused("kingCuts(0)", x, x.kingCuts(0), 2);
        due.is("nothing is cut by it", x.rope(1, 2), 1);
        due.is("nor put", x.corks(0, 3), 0);
        x.cut(1);
        due.fine("kingCuts(1), cut", x, x.kingCuts(1), -2);
        x.cut(0);
        due.fine("kingCuts(1), none tied", x, x.kingCuts(1), -2);
        due.fine("value(1), none tied", x, x.value(1), 2);
        // A cut can help the village: the king leaves the rope alone.
        CorkStreet y = Due.lakeOf("lake mice 0;house a north weight 7;house b south weight 0;rope a b");
        due.fine("value(1)", y, y.value(1), 0);
        due.fine("kingCuts(1)", y, y.kingCuts(1), -2);
        due.fine("value(2)", y, y.value(2), 0);
        y.cut(0);
        due.fine("value(2), cut", y, y.value(2), 1);
        CorkStreet deep = Due.lakeOf("lake mice 0;house a north weight 99;house b north weight 99");
        for (int n = 0; n <= 4; n++) {
            due.fine("value(" + n + ") of the deep", deep, deep.value(n), 0);
        }
        // Of like cuts the first.
        CorkStreet z = Due.lakeOf("lake mice 0;house a north weight 9;house b north weight 0;house c north weight 9;"
                + "rope a b;rope c b;corks b soft 18");
        due.fine("value(0)", z, z.value(0), 3);
        due.fine("value(1)", z, z.value(1), 2);
        due.fine("kingCuts(1), the first", z, z.kingCuts(1), 0);
        due.fine("value(3)", z, z.value(3), 1);
        due.fine("kingCuts(3)", z, z.kingCuts(3), 0);
        // The village wants many: of two under, the raft of two.
        CorkStreet w = Due.lakeOf("lake mice 0;house a north weight 1;house b north weight 1;house c north weight 1;house d south weight 3;"
                + "rope b c");
        due.fine("value(0) of nobody", w, w.value(0), 0);
        due.fine("value(2): the king cuts, one is left", w, w.value(2), 1);
        due.fine("kingCuts(2)", w, w.kingCuts(2), 0);
        w.cut(0);
        due.fine("value(4): two corks for two", w, w.value(4), 2);
        w.tie(0);
        due.fine("value(4): tied", w, w.value(4), 2);
    }

    // Promises 36 to 39.
    private void mice() {
        CorkStreet x = Due.lakeOf("lake mice 25;house a north weight 3;house b south weight 0;house c north weight 1;rope a b;"
                + "corks a white 2;corks b fizzy 9;corks c soft 1;guest g weight 1 at c");
        // A: lift 4 less 3; a cork goes by 1 in 4 each week, and one gone is under.
        long[][] dry = {{1, 1}, {3, 4}, {9, 16}, {27, 64}, {81, 256}};
        long[][] mean = {{1001, 1}, {2001, 2}, {1000, 1}, {0, 0}, {0, 0}};
        long[][] loss = {{0, 1}, {1, 4}, {1, 2}, {47, 64}, {0, 0}};
        for (int n = 0; n <= 4; n++) {
            for (int i = 0; i < 2; i++) {
                due.fine("dry(0, " + n + ")", x, x.dry(0, n, i == 1), dry[n][i]);
                if (n < 3) {
                    due.fine("mean(0, " + n + ")", x, x.mean(0, n, i == 1), mean[n][i]);
                }
                if (n < 4) {
                    due.fine("losses(0, " + n + ")", x, x.losses(0, n, i == 1), loss[n][i]);
                }
            }
        }
        // C is under by its guest; its cork is gone by age ahead of the mice.
        due.fine("dry(2, 0) upper", x, x.dry(2, 0, false), 0);
        due.fine("dry(2, 0) lower", x, x.dry(2, 0, true), 1);
        due.fine("mean(2, 1)", x, x.mean(2, 1, false), 998);
        due.fine("mean(2, 1) lower", x, x.mean(2, 1, true), 1);
        due.fine("losses(2, 4)", x, x.losses(2, 4, false), 0);
        due.fine("losses(2, 4) lower", x, x.losses(2, 4, true), 1);
        for (boolean lower : new boolean[] {false, true}) {
            for (int wrong : new int[] {-1, 3, LEAST, MOST}) {
                due.refused("dry, no house", x, x.dry(wrong, 9, lower), 1);
                due.refused("mean, no house", x, x.mean(wrong, 9, lower), 1);
                due.refused("losses, no house", x, x.losses(wrong, 9, lower), 1);
            }
            for (int wrong : new int[] {-1, 5, LEAST, MOST}) {
                due.refused("dry, weeks", x, x.dry(1, wrong, lower), 2);
                due.refused("mean, weeks", x, x.mean(1, wrong, lower), 2);
                due.refused("losses, weeks", x, x.losses(1, wrong, lower), 2);
                due.refused("safest, weeks", x, x.safest(wrong), 2);
            }
            due.refused("dry, south", x, x.dry(1, 0, lower), 5);
            due.refused("mean, south", x, x.mean(1, 0, lower), 5);
            due.refused("losses, south", x, x.losses(1, 0, lower), 5);
        }
        due.fine("safest(0)", x, x.safest(0), 0);
        x.move(0, 0);
        due.fine("a with the guest is just dry", x, x.dry(0, 0, false), 1);
        due.fine("safest(0), the first of like ones", x, x.safest(0), 0);
        // What lifts least goes: soft, then stale ahead of white, then red, then fizzy.
        CorkStreet y = Due.lakeOf("lake mice 100;house a north weight 0;corks a stale 1;corks a white 1;corks a fizzy 1;corks a red 1");
        due.fine("week 1: the soft one", y, y.mean(0, 1, false), 1008);
        due.fine("week 2: the one that went soft", y, y.mean(0, 2, false), 1006);
        due.fine("week 3: white", y, y.mean(0, 3, false), 1004);
        due.fine("week 4: fizzy", y, y.mean(0, 4, false), 1000);
        due.fine("losses(0, 4)", y, y.losses(0, 4, false), 4);
        due.fine("losses(0, 4) lower", y, y.losses(0, 4, true), 1);
        CorkStreet z = Due.lakeOf("lake mice 100;house a north weight 0;corks a red 1;corks a white 1");
        due.fine("the stale one goes ahead of white, so nothing goes soft", z, z.mean(0, 1, false), 1002);
        due.fine("white goes then", z, z.mean(0, 2, false), 1000);
        due.fine("dry, sure", z, z.dry(0, 4, false), 1);
        CorkStreet calm = Due.lakeOf("lake mice 0;house a north weight 0;corks a white 1");
        due.fine("no mice", calm, calm.mean(0, 4, false), 1002);
        due.fine("no losses", calm, calm.losses(0, 4, false), 0);
        due.fine("no losses by 1", calm, calm.losses(0, 4, true), 1);
        CorkStreet odd = Due.lakeOf("lake mice 1;house a south weight 0;house b north weight 1;house c north weight 0;corks b white 1;"
                + "corks c white 9");
        due.fine("dry(1, 4) upper", odd, odd.dry(1, 4, false), 96059601);
        due.fine("dry(1, 4) lower", odd, odd.dry(1, 4, true), 100000000);
        due.fine("safest(4)", odd, odd.safest(4), 2);
        due.fine("safest(0), like ones", odd, odd.safest(0), 1);
        due.fine("safest without a north one", odd, Due.lakeOf("lake mice 0;house a south weight 0").safest(0), -2);
    }

    // Promises 40 to 42.
    private void weeksByDraws() {
        // From 0 the draws are 74, 5624, 28652 .. so 74, 24, 52 in a hundred.
        String text = "lake mice 52;house a south weight 0;house b north weight 4;house c north weight 0;corks a white 1;corks b white 3;"
                + "corks c white 1";
        CorkStreet x = Due.lakeOf(text);
        due.fine("weeks(1, 0, 0)", x, x.weeks(1, 0, 0), 1002);
        due.fine("weeks(1, 0, 1): 74", x, x.weeks(1, 0, 1), 1002);
        due.fine("weeks(2, 0, 1): 24", x, x.weeks(2, 0, 1), 1000);
        due.fine("weeks(1, 0, 2): 52 isn't below 52", x, x.weeks(1, 0, 2), 1002);
        due.fine("weeks(0, 0, 20): south", x, x.weeks(0, 0, 20), 1002);
        due.fine("eaten(0, 0)", x, x.eaten(0, 0), 0);
        due.fine("eaten(0, 1)", x, x.eaten(0, 1), 1);
        due.is("SEED stays", x.size(9), 0);
        due.is("corks stay", x.corks(2, 3), 1);
        // From 1 the draws are 149, 11249 (49 in a hundred both), from 2 they are 224 (24) and so on.
        due.fine("weeks(1, 1, 1)", x, x.weeks(1, 1, 1), 1000);
        due.fine("eaten(1, 1)", x, x.eaten(1, 1), 2);
        due.fine("weeks(1, 2, 1)", x, x.weeks(1, 2, 1), 1000);
        x.seed(1);
        due.fine("weeks(1, 0, 1), whatever SEED is", x, x.weeks(1, 0, 1), 1002);
        due.fine("eaten(0, 1), whatever SEED is", x, x.eaten(0, 1), 1);
        CorkStreet more = Due.lakeOf(text.replace("mice 52", "mice 53"));
        due.fine("weeks(1, 0, 2): 52 is below 53", more, more.weeks(1, 0, 2), 1000);
        due.fine("eaten(0, 2)", more, more.eaten(0, 2), 2);
        CorkStreet all = Due.lakeOf(text.replace("mice 52", "mice 100"));
        due.fine("eaten(9, 20): all there are", all, all.eaten(9, 20), 4);
        due.fine("sunkAt(9, 1)", all, all.sunkAt(9, 1), -2);
        due.fine("sunkAt(9, 2)", all, all.sunkAt(9, 2), 2);
        due.fine("sunkAt(9, 20)", all, all.sunkAt(9, 20), 2);
        due.fine("sunkAt(9, 0)", all, all.sunkAt(9, 0), -2);
        due.fine("weeks(1, 65536, 20)", all, all.weeks(1, 65536, 20), 996);
        CorkStreet none = Due.lakeOf(text.replace("mice 52", "mice 0"));
        due.fine("eaten without mice", none, none.eaten(9, 20), 0);
        due.fine("sunkAt without mice", none, none.sunkAt(9, 20), -2);
        CorkStreet under = Due.lakeOf(TWO);
        due.fine("sunkAt NOW", under, under.sunkAt(9, 0), 0);
        for (int wrong : new int[] {-1, 21, LEAST, MOST}) {
            due.refused("weeks", x, x.weeks(0, 0, wrong), 2);
            due.refused("eaten", x, x.eaten(0, wrong), 2);
            due.refused("sunkAt", x, x.sunkAt(0, wrong), 2);
        }
        for (int wrong : new int[] {-1, 65537, LEAST, MOST}) {
            due.refused("weeks, seed", x, x.weeks(0, wrong, 0), 2);
            due.refused("eaten, seed", x, x.eaten(wrong, 0), 2);
            due.refused("sunkAt, seed", x, x.sunkAt(wrong, 0), 2);
            due.refused("weeks, house", x, x.weeks(wrong, wrong, wrong), 1);
        }
        due.refused("weeks, house", x, x.weeks(3, 0, 0), 1);
    }

    // Promises 43 to 48.
    private void acts() {
        CorkStreet x = Due.lakeOf(STREET);
        due.fine("drink(0, 0)", x, x.drink(0, 0), 4);
        due.fine("drink(0, 3)", x, x.drink(0, 3), 1);
        due.fine("drink(1, 3)", x, x.drink(1, 3), 3);
        due.is("red at ann", x.corks(0, 0), 4);
        due.is("red at dot", x.corks(3, 0), 1);
        due.is("white at dot", x.corks(3, 3), 3);
        due.refused("drink(2, 0)", x, x.drink(2, 0), 1);
        due.refused("drink(-1, 0)", x, x.drink(-1, 0), 1);
        due.refused("drink(0, 4)", x, x.drink(0, 4), 1);
        due.refused("drink(0, -1)", x, x.drink(0, -1), 1);
        due.is("three acts", x.size(10), 3);
        for (int i = 4; i < 999; i++) {
            due.is("drink", x.drink(1, 3), i);
        }
        due.fine("the last cork", x, x.drink(1, 3), 999);
        due.refused("999 are there", x, x.drink(1, 3), 3);
        due.fine("999 of another kind are not", x, x.drink(0, 3), 2);

        x = Due.lakeOf(STREET);
        due.fine("move", x, x.move(0, 2));
        due.is("gus at cid", x.guest(0, 1), 2);
        due.is("may at dot", x.guest(1, 1), 3);
        due.refused("it is there", x, x.move(0, 2), 5);
        due.refused("no guest", x, x.move(2, 0), 1);
        due.refused("no guest", x, x.move(-1, 0), 1);
        due.refused("no house", x, x.move(0, 4), 1);
        due.refused("no house", x, x.move(0, -1), 1);
        due.is("one act", x.size(10), 1);

        due.fine("cut", x, x.cut(1));
        due.is("cut 1", x.rope(1, 2), 0);
        due.is("not 0", x.rope(0, 2), 1);
        due.refused("it is cut", x, x.cut(1), 5);
        due.refused("no rope", x, x.cut(2), 1);
        due.refused("no rope", x, x.cut(-1), 1);
        due.refused("it is tied", x, x.tie(0), 5);
        due.fine("tie", x, x.tie(1));
        due.is("tied 1", x.rope(1, 2), 1);
        due.refused("it is tied again", x, x.tie(1), 5);
        due.refused("no rope", x, x.tie(2), 1);
        due.refused("no rope", x, x.tie(-1), 1);
        due.is("three acts", x.size(10), 3);

        // Mice 25: from SEED 0 the draws are 74 for ann, 24 for cid.
        x = Due.lakeOf(STREET);
        due.fine("week", x, x.week(), 7);
        due.is("week 1", x.size(8), 1);
        due.is("SEED", x.size(9), 5624);
        int[][] corks = {{0, 3, 0, 0, 0}, {0, 0, 0, 4, 0}, {0, 1, 1, 0, 1}, {0, 0, 0, 2, 0}};
        for (int h = 0; h < 4; h++) {
            for (int i = 0; i < 5; i++) {
                due.is("corks(" + h + ", " + i + ") behind a week", x.corks(h, i), corks[h][i]);
            }
        }
        due.fine("seed", x, x.seed(65536));
        due.is("SEED", x.size(9), 65536);
        due.is("no ACT", x.size(10), 1);
        due.fine("seed(0)", x, x.seed(0));
        due.refused("seed(-1)", x, x.seed(-1), 2);
        due.refused("seed(65537)", x, x.seed(65537), 2);
        due.is("SEED stays", x.size(9), 0);
        x.seed(65536);
        x.week();
        // 65536 is -1: -75 and 74 make -1 again.
        due.is("SEED of 65536", x.size(9), 65536);
        for (int i = 2; i < 999; i++) {
            x.week();
        }
        due.is("weeks", x.size(8), 999);
        due.refused("999 went by", x, x.week(), 3);
        due.is("weeks", x.size(8), 999);
        CorkStreet dry = Due.lakeOf("lake mice 0;house a north weight 1;house b south weight 0;corks a stale 1");
        due.fine("week 1", dry, dry.week(), 0);
        due.fine("week 2", dry, dry.week(), 1);
    }

    // Promise 49.
    private void undoing() {
        CorkStreet x = Due.lakeOf(STREET);
        due.refused("nothing to undo", x, x.undo(), 6);
        x.seed(5);
        x.drink(0, 0);
        x.move(0, 2);
        x.cut(0);
        x.week();
        x.tie(0);
        x.seed(77);
        due.is("acts", x.size(10), 5);
        due.fine("undo tie", x, x.undo());
        due.is("cut", x.rope(0, 2), 0);
        due.is("SEED as ahead of it", x.size(9), ((5 * 75 + 74) * 75 + 74) % 65537);
        due.fine("undo week", x, x.undo());
        due.is("SEED as ahead of it", x.size(9), 5);
        due.is("week", x.size(8), 0);
        due.is("red", x.corks(0, 0), 4);
        due.fine("undo cut", x, x.undo());
        due.is("tied", x.rope(0, 2), 1);
        due.fine("undo move", x, x.undo());
        due.is("gus", x.guest(0, 1), 1);
        due.is("acts", x.size(10), 1);
        due.fine("undo drink", x, x.undo());
        due.is("red", x.corks(0, 0), 3);
        due.is("SEED, which was no ACT", x.size(9), 5);
        due.refused("no more", x, x.undo(), 6);
        for (int i = 0; i < 16; i++) {
            x.drink(1, 0);
        }
        due.is("16", x.size(10), 16);
        x.drink(1, 0);
        due.is("16 are kept", x.size(10), 16);
        for (int i = 16; i > 0; i--) {
            due.is("corks", x.corks(0, 3), i + 1);
            due.fine("undo", x, x.undo());
            due.is("left", x.size(10), i - 1);
        }
        due.is("the first can't be undone", x.corks(0, 3), 1);
        due.refused("no more", x, x.undo(), 6);
        x.drink(1, 0);
        due.refused("a refused act", x, x.cut(9), 1);
        due.is("isn't kept", x.size(10), 1);
    }

    // Promises 50 and 51.
    private void images() {
        CorkStreet x = Due.lakeOf(STREET);
        due.refused("back(0) without one", x, x.back(0), 1);
        due.fine("image 0", x, x.image(), 0);
        due.is("no ACT", x.size(10), 0);
        x.drink(0, 0);
        x.cut(1);
        x.move(0, 3);
        x.week();
        x.seed(9);
        due.fine("image 1", x, x.image(), 1);
        due.is("acts can still be undone", x.size(10), 4);
        due.fine("back(0)", x, x.back(0));
        due.is("red", x.corks(0, 0), 3);
        due.is("tied", x.rope(1, 2), 1);
        due.is("gus", x.guest(0, 1), 1);
        due.is("week", x.size(8), 0);
        due.is("SEED", x.size(9), 0);
        due.is("nothing can be undone", x.size(10), 0);
        due.refused("undo", x, x.undo(), 6);
        due.is("IMAGES stay", x.size(11), 2);
        x.drink(0, 0);
        due.fine("back(1)", x, x.back(1));
        due.is("stale", x.corks(0, 1), 4);
        due.is("cut", x.rope(1, 2), 0);
        due.is("gus", x.guest(0, 1), 3);
        due.is("week", x.size(8), 1);
        due.is("SEED", x.size(9), 9);
        due.is("nothing can be undone", x.size(10), 0);
        x.drink(0, 0);
        x.undo();
        due.is("IMAGES stay by undoing", x.size(11), 2);
        due.refused("back(2)", x, x.back(2), 1);
        due.refused("back(-1)", x, x.back(-1), 1);
        due.refused("back of the most", x, x.back(MOST), 1);
        due.fine("image 2", x, x.image(), 2);
        due.refused("no more", x, x.image(), 3);
        due.is("three", x.size(11), 3);
        x.drink(0, 0);
        due.refused("a refused back", x, x.back(3), 1);
        due.is("leaves what can be undone", x.size(10), 1);
        due.fine("back(0) again", x, x.back(0));
        due.is("red", x.corks(0, 0), 3);
        due.fine("back(1) again", x, x.back(1));
        due.is("stale", x.corks(0, 1), 4);
    }

    private void led(CorkStreet x, int i, int house) {
        int got;
        try {
            got = x.led(i);
        } catch (NoSuchElementException e) {
            got = -99;
        }
        due.is("led(" + i + "), -99 where it throws", got, house);
    }

    // Promises 52 to 54.
    private void whatIsTold() {
        CorkStreet x = Due.lakeOf(STREET);
        int[] sizes = {25, 4, 2, 2, 2, 3, 2, 2, 0, 0, 0, 0, 0};
        for (int i = 0; i < sizes.length; i++) {
            due.is("size(" + i + ")", x.size(i), sizes[i]);
        }
        x.feed(0, 0, 0, 0, 0);
        due.is("size(12)", x.size(12), 20);
        for (int wrong : new int[] {-1, 13, LEAST, MOST}) {
            due.is("size(" + wrong + ")", x.size(wrong), -1);
        }
        led(x, 0, 0);
        led(x, 1, 1);
        led(x, 2, 2);
        led(x, 3, -99);
        led(x, -1, -99);
        led(x, LEAST, -99);
        led(x, MOST, -99);
        x.cut(0);
        x.move(0, 3);
        led(x, 0, 0);
        led(x, 1, 3);
        led(x, 2, -99);
        led(Due.lakeOf("lake mice 0;house a north weight 0;house b north weight 1"), 0, 1);
        due.refused("cut", x, x.cut(0), 5);
        led(x, 9, -99);
        due.is("trouble stays by calls that are never refused", x.trouble(), 5);
        x.size(99);
        x.fault();
        x.where();
        x.feed(1, 2, 3, 4, 5);
        due.is("trouble stays by them", x.trouble(), 5);
        due.fine("rafts", x, x.rafts(), 3);
    }

    /** All that is refused by 1 without a LAKE, whatever the numbers are. */
    private void withoutLake() {
        CorkStreet x = new CorkStreet();
        for (int n : new int[] {0, 1, -1, 99}) {
            due.refused("house", x, x.house(n, n), 1);
            due.refused("corks", x, x.corks(n, n), 1);
            due.refused("guest", x, x.guest(n, n), 1);
            due.refused("rope", x, x.rope(n, n), 1);
            due.refused("tilt", x, x.tilt(n), 1);
            due.refused("heightIn", x, x.heightIn(n, n), 1);
            due.refused("underIn", x, x.underIn(n), 1);
            due.refused("sinks", x, x.sinks(n), 1);
            due.refused("aunt", x, x.aunt(n, n, n), 1);
            due.refused("bestStay", x, x.bestStay(n), 1);
            due.refused("bestMove", x, x.bestMove(n), 1);
            due.refused("plan", x, x.plan(n), 1);
            due.refused("planDays", x, x.planDays(n, n), 1);
            due.refused("planHouse", x, x.planHouse(n, n), 1);
            due.refused("feasts", x, x.feasts(n), 1);
            due.refused("feastHouse", x, x.feastHouse(n, n), 1);
            due.refused("setAt", x, x.setAt(n), 1);
            due.refused("value", x, x.value(n), 1);
            due.refused("kingCuts", x, x.kingCuts(n), 1);
            due.refused("dry", x, x.dry(n, n, false), 1);
            due.refused("mean", x, x.mean(n, n, true), 1);
            due.refused("safest", x, x.safest(n), 1);
            due.refused("losses", x, x.losses(n, n, false), 1);
            due.refused("weeks", x, x.weeks(n, n, n), 1);
            due.refused("eaten", x, x.eaten(n, n), 1);
            due.refused("sunkAt", x, x.sunkAt(n, n), 1);
            due.refused("drink", x, x.drink(n, n), 1);
            due.refused("move", x, x.move(n, n), 1);
            due.refused("cut", x, x.cut(n), 1);
            due.refused("tie", x, x.tie(n), 1);
            due.refused("seed", x, x.seed(n), 1);
            due.refused("back", x, x.back(n), 1);
            led(x, n, -99);
        }
        due.refused("undo", x, x.undo(), 6);
        due.refused("under", x, x.under(), 1);
        due.refused("lowest", x, x.lowest(), 1);
        due.refused("rafts", x, x.rafts(), 1);
        due.refused("wetFeast", x, x.wetFeast(), 1);
        due.refused("bestCut", x, x.bestCut(), 1);
        due.refused("sets", x, x.sets(), 1);
        due.refused("could", x, x.could(), 1);
        due.refused("surely", x, x.surely(), 1);
        due.refused("ask", x, x.ask(), 1);
        due.refused("askLeaves", x, x.askLeaves(), 1);
        due.refused("judge", x, x.judge(), 1);
        due.refused("week", x, x.week(), 1);
        due.refused("image", x, x.image(), 1);
        for (int i = 0; i <= 12; i++) {
            due.is("size(" + i + ")", x.size(i), 0);
        }
        due.is("size(13)", x.size(13), -1);
    }

    /** Each question as the first call of a lake: none lives on what another one worked out. */
    private void eachAlone() {
        due.is("house", Due.lakeOf(STREET).house(2, 3), 998);
        due.is("house", Due.lakeOf(STREET).house(3, 4), 8);
        due.is("under", Due.lakeOf(STREET).under(), 7);
        due.is("lowest", Due.lakeOf(STREET.replace("weight 12", "weight 0").replace("weight 9", "weight 8")).lowest(), 3);
        due.is("rafts", Due.lakeOf(STREET).rafts(), 2);
        due.is("tilt", Due.lakeOf(STREET).tilt(0), 7);
        due.is("heightIn", Due.lakeOf(STREET).heightIn(0, 2), 994);
        due.is("underIn", Due.lakeOf(STREET).underIn(2), 7);
        due.is("sinks", Due.lakeOf(STREET).sinks(0), 0);
        due.is("wetFeast", Due.lakeOf(STREET).wetFeast(), 1);
        due.is("aunt", Due.lakeOf(STREET).aunt(0, 0, 0), 2);
        due.is("bestStay", Due.lakeOf(STREET).bestStay(9), 0);
        due.is("bestStay", Due.lakeOf(STREET).bestStay(0), 0);
        due.is("bestStay: -5 by 3 is as low as -4 by 3", Due.lakeOf(STREET).bestStay(1), 0);
        due.is("bestStay: -7 by 3 isn't", Due.lakeOf(STREET).bestStay(3), 3);
        due.is("bestMove", Due.lakeOf(STREET).bestMove(0), 0);
        due.is("bestMove", Due.lakeOf("lake mice 0;house a north weight 0;house b north weight 0;corks b white 3;"
                + "guest g weight 4 at a").bestMove(0), 1);
        due.is("bestCut", Due.lakeOf(STREET).bestCut(), 1);
        due.is("plan", Due.lakeOf(STREET).plan(1), 2);
        due.is("planDays", Due.lakeOf(STREET).planDays(1, 1), 1);
        due.is("planHouse", Due.lakeOf(STREET).planHouse(1, 1), 0);
        String dry = STREET.replace("feast dot week 9 high 3", "feast dot week 9 high 2");
        due.is("feasts", Due.lakeOf(dry).feasts(4), 14);
        due.is("feastHouse", Due.lakeOf(dry).feastHouse(0, 4), 0);
        due.is("sets", Due.lakeOf(STREET).sets(), 1);
        due.is("setAt", Due.lakeOf(STREET).setAt(0), 1);
        due.is("could", Due.lakeOf(STREET).could(), 1);
        due.is("surely", Due.lakeOf(STREET).surely(), 1);
        due.is("ask", Due.lakeOf(STREET).ask(), 0);
        due.is("askLeaves", Due.lakeOf(STREET).askLeaves(), 1);
        due.is("judge", Due.lakeOf(STREET).judge(), 1);
        due.is("value", Due.lakeOf(STREET).value(0), 1);
        due.is("value", Due.lakeOf(STREET).value(2), 1);
        due.is("kingCuts", Due.lakeOf("lake mice 0;house a north weight 0;house b north weight 1;rope a b;corks a white 1").kingCuts(1), 0);
        due.is("dry", Due.lakeOf(STREET.replace("cid north weight 9", "cid north weight 8")).dry(2, 1, false), 3);
        due.is("dry", Due.lakeOf(STREET.replace("cid north weight 9", "cid north weight 8")).dry(2, 1, true), 4);
        due.is("mean", Due.lakeOf(STREET).mean(2, 1, false), 3995);
        due.is("mean", Due.lakeOf(STREET).mean(2, 1, true), 4);
        due.is("losses", Due.lakeOf(STREET).losses(2, 1, true), 4);
        due.is("safest", Due.lakeOf(STREET).safest(0), 2);
        due.is("weeks", Due.lakeOf(STREET).weeks(2, 0, 1), 995);
        due.is("eaten", Due.lakeOf(STREET).eaten(0, 1), 1);
        due.is("sunkAt", Due.lakeOf(STREET).sunkAt(0, 1), 0);
        due.is("week", Due.lakeOf(STREET).week(), 7);
        led(Due.lakeOf(STREET), 2, 2);
    }
}
