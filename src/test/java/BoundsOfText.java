/** The text of a LAKE (terms, I): what it may have at most, and the FAULTS with their places. */
final class BoundsOfText extends Bounds {
    private static final String TWO = "lake mice 5;house a north weight 5;house b south weight 5";
    private static final String FIVE = "lake mice 5;house a north weight 5;house b south weight 5;house c north weight 5;"
            + "house d south weight 5;house e north weight 5";
    private static final String FORMER = "lake mice 9;house ann north weight 3;house bob south weight 4;rope ann bob;corks bob red 2;"
            + "guest gus weight 6 at bob;drinker pat white drinks 2;feast bob week 1 high 2;gave pat ann 3;seen bob over 1";

    BoundsOfText(Due due) {
        super(due);
    }

    /** A text with a FAULT where the sign ^ stands, which is no part of it; what comes behind the FAULT doesn't matter. */
    private void fault(int number, String marked) {
        faultAlone(number, marked);
        if (!marked.endsWith("^")) {
            faultAlone(number, marked + ";!");
            faultAlone(number, marked + ";lake mice 999");
        }
    }

    /** The former LAKE stays with all that was done. */
    private void faultAlone(int number, String marked) {
        int place = marked.indexOf('^');
        String text = marked.substring(0, place) + marked.substring(place + 1);
        CorkStreet x = made(FORMER, y -> {
            y.cut(0);
            y.image();
            y.week();
            y.seed(77);
        });
        String before = picture(x);
        Due.feed(x, text);
        due.is("lake() of " + marked, x.lake(text.length()), NONE);
        due.is("trouble() behind " + marked, x.trouble(), 4);
        due.is("fault() of " + marked, x.fault(), number);
        due.is("where() of " + marked, x.where(), place);
        due.is("the LAKE stays behind " + marked, picture(x), before);
    }

    private CorkStreet told(int houses, String text) {
        CorkStreet x = new CorkStreet();
        due.is("lake() of " + text, Due.lake(x, text), houses);
        due.is("trouble() behind " + text, x.trouble(), 0);
        due.is("fault() of " + text, x.fault(), 0);
        due.is("where() of " + text, x.where(), NONE);
        return x;
    }

    // ---- TOKENS

    void termsI_wordsHaveOneToEightLetters() {
        told(1, "lake mice 5;house a north weight 5");
        told(1, "lake mice 5;house abcdefgh north weight 5;corks abcdefgh red 1");
        fault(1, "lake mice 5;house ^abcdefghi north weight 5");
        fault(1, TWO + ";rope a ^abcdefghi");
        fault(1, "^lakelakel mice 5");
        fault(2, "lake mice 5;house abcdefgh north weight 5;corks ^abcdefg red 1");
        fault(2, "lake mice 5;house abcdefgh north weight 5;corks ^abcdefgi red 1");
    }

    void termsI_lettersAreSmallOnesFromAToZ() {
        told(1, "lake mice 5;house az north weight 5");
        told(1, "lake mice 5;house za north weight 5");
        fault(1, "lake mice 5;house ^` north weight 5");
        fault(1, "lake mice 5;house a^` north weight 5");
        fault(1, "lake mice 5;house ^{ north weight 5");
        fault(1, "lake mice 5;house z^{ north weight 5");
        fault(1, "lake mice 5;house ^A north weight 5");
        fault(1, "lake mice 5;house ^Z north weight 5");
        fault(1, "^Lake mice 5");
    }

    void termsI_wholesHaveOneToThreeDigits() {
        due.is("one digit", told(1, "lake mice 0;house a north weight 9").house(0, 1), 9);
        due.is("two digits", told(1, "lake mice 09;house a north weight 09").house(0, 1), 9);
        due.is("three digits", told(1, "lake mice 009;house a north weight 090").house(0, 1), 90);
        fault(1, "lake mice ^0009;house a north weight 5");
        fault(1, "lake mice 5;house a north weight ^0005");
        fault(4, "lake mice ^999");
        fault(1, "lake mice ^1000");
        fault(1, "lake mice ^4294967296");
        fault(1, "lake mice ^18446744073709551616");
    }

    void termsI_digitsAreFrom0To9() {
        due.is("mice 90", told(1, "lake mice 90;house a north weight 0").size(0), 90);
        fault(1, "lake mice ^/");
        fault(1, "lake mice 0^/");
        fault(1, "lake mice ^:");
        fault(1, "lake mice 9^:");
        fault(1, "lake mice ^-1");
        fault(1, "lake mice ^+1");
    }

    void termsI_eachByteBehindALine() {
        for (int b = 0; b < 256; b++) {
            char sign = (char) b;
            if (sign == '^') {
                continue;
            }
            if (sign == ' ' || sign >= '0' && sign <= '9') {
                fault(6, "lake mice 5" + sign + "^");
            } else if (sign == ';') {
                fault(1, "lake mice 5" + sign + "^");
            } else {
                fault(1, "lake mice 5^" + sign);
            }
        }
    }

    void termsI_blanksPartTokensAndMeanNothingElse() {
        told(2, "  lake   mice  5  ;  house  a  north  weight  5  ;house b south weight 5;  rope  a  b  ");
        told(2, "lake mice5;house a north weight5;house b south weight 5;rope a b;corks a red4");
        fault(1, "^lakemice 5");
        fault(1, "lake mice 5;house ^anorthweight 5");
        fault(1, "^la ke mice 5");
        fault(1, "lake mice 1 ^0");
        fault(1, "lake mice 5^\t");
        fault(1, "lake mice 5;house a^\nnorth weight 5");
    }

    void termsI_linesAreOneOrMoreWithASemicolonBetween() {
        fault(1, "^");
        fault(1, "    ^");
        fault(1, "^;");
        fault(1, "^;lake mice 5");
        fault(1, TWO + ";^");
        fault(1, TWO + ";  ^");
        fault(1, TWO + ";^;rope a b");
        fault(1, TWO + " ^rope a b");
        fault(1, TWO + ";^boat");
        fault(1, TWO + ";^5");
    }

    void termsI_theEndIsAPlaceToo() {
        String[] texts = {"lake^", "lake mice^", "lake mice 5;house^", "lake mice 5;house a^", "lake mice 5;house a north^",
            "lake mice 5;house a north weight^", TWO + ";rope^", TWO + ";rope a^", TWO + ";corks^", TWO + ";corks a^",
            TWO + ";corks a red^", TWO + ";guest^", TWO + ";guest g^", TWO + ";guest g weight^", TWO + ";guest g weight 5^",
            TWO + ";guest g weight 5 at^", TWO + ";drinker^", TWO + ";drinker d^", TWO + ";drinker d red^",
            TWO + ";drinker d red drinks^", TWO + ";feast^", TWO + ";feast a^", TWO + ";feast a week^", TWO + ";feast a week 5^",
            TWO + ";feast a week 5 high^", TWO + ";gave^", TWO + ";drinker d red drinks 1;gave d^",
            TWO + ";drinker d red drinks 1;gave d a^", TWO + ";seen^", TWO + ";seen a^", TWO + ";seen a over^", TWO + ";seen a below^"};
        for (String text : texts) {
            fault(1, text);
            fault(1, text.replace("^", "   ^"));
            fault(1, text.replace("^", " ^;"));
            fault(1, text.replace("^", "^;"));
            fault(1, text.replace("^", " ^!"));
        }
    }

    void termsI_theTapeHas1000Bytes() {
        StringBuilder text = new StringBuilder("lake mice 5;house a north weight 5;corks a red");
        while (text.length() < 999) {
            text.append(' ');
        }
        CorkStreet x = told(1, text + "7");
        due.is("corks by the last byte", x.corks(0, 0), 7);
        faultAlone(1, text + "^;");
        faultAlone(1, text + " ^");
        faultAlone(1, text + "^x");
    }

    // ---- LINES, each with its bounds

    void termsI_miceAre0To100() {
        due.is("no mice", told(1, "lake mice 0;house a north weight 5").size(0), 0);
        due.is("mice 100", told(1, "lake mice 100;house a north weight 5").size(0), 100);
        fault(4, "lake mice ^101;house a north weight 5");
    }

    void termsI_aHouseWeighs0To99() {
        due.is("weight 0", told(1, "lake mice 5;house a north weight 0").house(0, 1), 0);
        due.is("weight 99", told(1, "lake mice 5;house a north weight 99").house(0, 1), 99);
        fault(4, "lake mice 5;house a north weight ^100");
    }

    void termsI_aSideIsNorthOrSouth() {
        due.is("north", told(1, "lake mice 5;house a north weight 0").house(0, 0), 0);
        due.is("south", told(1, "lake mice 5;house a south weight 0").house(0, 0), 1);
        fault(1, "lake mice 5;house a ^east weight 0");
        fault(1, "lake mice 5;house a ^nort weight 0");
        fault(1, "lake mice 5;house a ^souths weight 0");
    }

    void termsI_upToFiveHouses() {
        told(5, FIVE);
        fault(5, FIVE + ";^house f north weight 5");
        fault(5, FIVE + ";  ^house a");
        fault(5, FIVE + ";^house");
    }

    void termsI_aRopeJoinsUnlikeHouses() {
        told(2, TWO + ";rope a b");
        fault(3, TWO + ";rope a ^a");
        fault(3, TWO + ";rope b ^b");
    }

    void termsI_aRopeIsToldOnceInWhateverOrder() {
        fault(3, TWO + ";rope a b;rope a ^b");
        fault(3, TWO + ";rope a b;rope b ^a");
        fault(3, TWO + ";rope b a;rope a ^b");
        told(5, FIVE + ";rope a b;rope b c;rope c a");
        fault(3, FIVE + ";rope a b;rope b c;rope c a;rope a ^c");
    }

    void termsI_upToFiveRopes() {
        String ropes = FIVE + ";rope a b;rope b c;rope c d;rope d e;rope e a";
        due.is("five ropes", told(5, ropes).size(2), 5);
        fault(5, ropes + ";^rope a c");
        fault(5, ropes + ";^rope a a");
        fault(5, ropes + ";^rope");
    }

    void termsI_corksAre1To30() {
        for (String kind : KINDS) {
            told(2, TWO + ";corks a " + kind + " 1;corks b " + kind + " 30");
            fault(4, TWO + ";corks a " + kind + " ^0");
            fault(4, TWO + ";corks a " + kind + " ^31");
        }
        CorkStreet x = told(2, TWO + ";corks a soft 1;corks b soft 30");
        due.is("one cork", x.corks(0, 2), 1);
        due.is("thirty corks", x.corks(1, 2), 30);
    }

    void termsI_kindsOfCorksAreFive() {
        for (int kind = 0; kind < KINDS.length; kind++) {
            CorkStreet x = told(2, TWO + ";corks b " + KINDS[kind] + " 7");
            for (int other = 0; other < KINDS.length; other++) {
                due.is("corks(1, " + other + ") of " + KINDS[kind], x.corks(1, other), other == kind ? 7 : 0);
            }
        }
        fault(1, TWO + ";corks a ^blue 5");
        fault(1, TWO + ";corks a ^reds 5");
        fault(1, TWO + ";corks a ^fizz 5");
    }

    void termsI_corksOfAHouseAndAKindAreToldOnce() {
        for (String kind : KINDS) {
            fault(3, TWO + ";corks a " + kind + " 1;corks b " + kind + " 1;corks a ^" + kind + " 2");
        }
        StringBuilder all = new StringBuilder(FIVE);
        for (char house = 'a'; house <= 'e'; house++) {
            for (String kind : KINDS) {
                all.append(";corks ").append(house).append(' ').append(kind).append(" 30");
            }
        }
        CorkStreet x = told(5, all.toString());
        for (int h = 0; h < 5; h++) {
            for (int kind = 0; kind < 5; kind++) {
                due.is("all 25 told", x.corks(h, kind), 30);
            }
        }
        fault(3, all + ";corks a ^red 1");
        fault(3, all + ";corks e ^fizzy 1");
    }

    void termsI_aGuestWeighs1To50() {
        due.is("weight 1", told(2, TWO + ";guest g weight 1 at a").guest(0, 0), 1);
        due.is("weight 50", told(2, TWO + ";guest g weight 50 at b").guest(0, 0), 50);
        fault(4, TWO + ";guest g weight ^0 at a");
        fault(4, TWO + ";guest g weight ^51 at a");
    }

    void termsI_upToThreeGuests() {
        String guests = TWO + ";guest f weight 1 at a;guest g weight 1 at a;guest h weight 1 at a";
        due.is("three guests", told(2, guests).size(3), 3);
        fault(5, guests + ";^guest i weight 1 at a");
        fault(5, guests + ";^guest f");
        fault(5, guests + ";^guest");
    }

    void termsI_aDrinkerDrinks1To9() {
        String day = TWO + ";drinker d white drinks ";
        due.is("one in a day", told(1, "lake mice 5;house a north weight 2;drinker d white drinks 1").plan(1), 1);
        CorkStreet x = told(1, "lake mice 5;house a north weight 18;drinker d white drinks 9");
        due.is("nine in a day", x.plan(1), 9);
        fault(4, day + "^0");
        fault(4, day + "^10");
    }

    void termsI_aDrinkersKindIsRedWhiteOrFizzy() {
        told(2, TWO + ";drinker d red drinks 1;drinker e white drinks 1;drinker f fizzy drinks 1");
        fault(1, TWO + ";drinker d ^stale drinks 1");
        fault(1, TWO + ";drinker d ^soft drinks 1");
        fault(1, TWO + ";drinker d ^blue drinks 1");
    }

    void termsI_upToThreeDrinkers() {
        String drinkers = TWO + ";drinker d red drinks 1;drinker e red drinks 1;drinker f red drinks 1";
        due.is("three drinkers", told(2, drinkers).size(4), 3);
        fault(5, drinkers + ";^drinker g red drinks 1");
        fault(5, drinkers + ";^drinker d");
        fault(5, drinkers + ";^drinker");
    }

    void termsI_aFeastIsInWeek0To9() {
        told(2, TWO + ";feast a week 0 high 1");
        told(2, TWO + ";feast a week 9 high 1");
        fault(4, TWO + ";feast a week ^10 high 1");
    }

    void termsI_aFeastIsHigh0To50() {
        told(2, TWO + ";feast a week 1 high 0");
        told(2, TWO + ";feast a week 1 high 50");
        fault(4, TWO + ";feast a week 1 high ^51");
    }

    void termsI_upToFourFeasts() {
        String feasts = TWO + ";feast a week 1 high 1;feast a week 1 high 1;feast a week 1 high 1;feast b week 1 high 1";
        due.is("four feasts, like ones too", told(2, feasts).size(5), 4);
        fault(5, feasts + ";^feast a week 1 high 1");
        fault(5, feasts + ";^feast x");
        fault(5, feasts + ";^feast");
    }

    void termsI_aDrinkerGave1To20() {
        String drinker = TWO + ";drinker d red drinks 1";
        due.is("gave 1", told(2, drinker + ";gave d a 1").corks(0, 0), 1);
        due.is("gave 20", told(2, drinker + ";gave d a 20").corks(0, 0), 20);
        fault(4, drinker + ";gave d a ^0");
        fault(4, drinker + ";gave d a ^21");
    }

    void termsI_upToFourGave() {
        String gave = TWO + ";drinker d red drinks 1;gave d a 20;gave d a 20;gave d a 20;gave d a 20";
        CorkStreet x = told(2, gave);
        due.is("four gave, like ones too", x.size(6), 4);
        due.is("all of them lie there", x.corks(0, 0), 80);
        fault(5, gave + ";^gave d a 1");
        fault(5, gave + ";^gave x");
        fault(5, gave + ";^gave");
    }

    void termsI_seenOver0To200() {
        told(2, TWO + ";seen a over 0;seen b over 200");
        fault(4, TWO + ";seen a over ^201");
    }

    void termsI_seenBelow1To200() {
        told(2, TWO + ";seen a below 1;seen b below 200");
        fault(4, TWO + ";seen a below ^0");
        fault(4, TWO + ";seen a below ^201");
    }

    void termsI_eachHouseIsSeenOnceOfBoth() {
        due.is("five seen", told(5, FIVE + ";seen a over 1;seen b below 1;seen c over 1;seen d below 1;seen e over 1").size(7), 5);
        fault(3, TWO + ";seen a over 1;seen ^a over 1");
        fault(3, TWO + ";seen a over 1;seen ^a below 1");
        fault(3, TWO + ";seen a below 1;seen ^a over 1");
        fault(3, TWO + ";seen a below 1;seen b below 1;seen ^a below 1");
        fault(3, FIVE + ";seen a over 1;seen b below 1;seen c over 1;seen d below 1;seen e over 1;seen ^e over 1");
    }

    // ---- NAMES

    void termsI_namesAreNoWordsThatBeginLines() {
        for (String word : LINE_WORDS) {
            fault(1, "lake mice 5;house ^" + word + " north weight 5");
            fault(1, TWO + ";guest ^" + word + " weight 5 at a");
            fault(1, TWO + ";drinker ^" + word + " red drinks 1");
            fault(1, TWO + ";rope ^" + word + " a");
            fault(1, TWO + ";rope a ^" + word);
            fault(1, TWO + ";corks ^" + word + " red 1");
            fault(1, TWO + ";guest g weight 1 at ^" + word);
            fault(1, TWO + ";feast ^" + word + " week 1 high 1");
            fault(1, TWO + ";gave ^" + word + " a 1");
            fault(1, TWO + ";drinker d red drinks 1;gave d ^" + word + " 1");
            fault(1, TWO + ";seen ^" + word + " over 1");
        }
    }

    void termsI_namesMayBeAllOtherWords() {
        for (String word : new String[] {"mice", "north", "south", "weight", "red", "stale", "soft", "white", "fizzy", "at", "drinks",
            "week", "high", "over", "below", "lakes", "hous"}) {
            told(1, "lake mice 5;house " + word + " north weight 5;corks " + word + " red 1;seen " + word + " over 1");
            told(2, TWO + ";guest " + word + " weight 5 at a");
            told(2, TWO + ";drinker " + word + " red drinks 1;gave " + word + " a 1");
        }
    }

    void termsI_namesAreToldOnceOfAllSorts() {
        String[] sorts = {";house x north weight 5", ";guest x weight 5 at a", ";drinker x red drinks 1"};
        for (String first : sorts) {
            told(first.startsWith(";house") ? 3 : 2, TWO + first);
            for (String second : sorts) {
                fault(3, TWO + first + second.replace(" x ", " ^x "));
            }
        }
    }

    void termsI_namesAreToldAheadOfTheirUse() {
        fault(2, TWO + ";rope ^c a;house c north weight 5");
        fault(2, TWO + ";rope a ^c;house c north weight 5");
        fault(2, TWO + ";corks ^c red 1;house c north weight 5");
        fault(2, TWO + ";guest g weight 5 at ^c;house c north weight 5");
        fault(2, TWO + ";feast ^c week 1 high 1;house c north weight 5");
        fault(2, TWO + ";gave ^d a 1;drinker d red drinks 1");
        fault(2, TWO + ";drinker d red drinks 1;gave d ^c 1;house c north weight 5");
        fault(2, TWO + ";seen ^c over 1;house c north weight 5");
    }

    void termsI_namesAreOfTheSortThatMustStandThere() {
        String all = TWO + ";guest g weight 1 at a;drinker d red drinks 1";
        for (String other : new String[] {"g", "d"}) {
            fault(2, all + ";rope ^" + other + " a");
            fault(2, all + ";rope a ^" + other);
            fault(2, all + ";corks ^" + other + " red 1");
            fault(2, all + ";guest k weight 1 at ^" + other);
            fault(2, all + ";feast ^" + other + " week 1 high 1");
            fault(2, all + ";gave d ^" + other + " 1");
            fault(2, all + ";seen ^" + other + " over 1");
        }
        fault(2, all + ";gave ^a a 1");
        fault(2, all + ";gave ^g a 1");
        fault(2, TWO + ";guest g weight 1 at ^g");
    }

    void termsI_namesOfAFormerTextAreNotTold() {
        fault(2, TWO + ";corks ^ann red 1");
        CorkStreet x = told(2, FORMER);
        due.is("the same names again", Due.lake(x, FORMER), 2);
        due.is("a LAKE with a FAULT behind its names", Due.lake(x, FORMER + ";"), NONE);
        due.is("the same names again", Due.lake(x, FORMER), 2);
    }

    void termsI_namesAreTheirLettersInTheirOrder() {
        String[] names = {"a", "z", "aa", "az", "ba", "ab", "zz", "aaa", "abcdefgh", "bacdefgh", "abcdefhg"};
        for (String one : names) {
            for (String other : names) {
                if (one.equals(other)) {
                    fault(3, "lake mice 5;house " + one + " north weight 5;house ^" + other + " north weight 5");
                } else {
                    told(2, "lake mice 5;house " + one + " north weight 5;house " + other + " north weight 5;rope " + other + " " + one);
                }
            }
        }
    }

    void termsI_wordsOfTheFormAreTheirLetters() {
        String text = TWO + ";rope a b;corks a red 1;corks a stale 1;corks a soft 1;corks a white 1;corks a fizzy 1;"
                + "guest g weight 5 at a;drinker d red drinks 1;drinker e white drinks 1;drinker f fizzy drinks 1;"
                + "feast a week 1 high 1;gave d a 1;seen a over 1;seen b below 1";
        told(2, text);
        for (int at = 0; at < text.length(); at++) {
            int first = text.lastIndexOf(' ', at) + 1;
            first = Math.max(first, text.lastIndexOf(';', at) + 1);
            boolean name = text.substring(first).matches("(?s)[a-z]([ ;].*)?");
            if (Character.isLowerCase(text.charAt(at)) && !name) {
                char other = (char) ('a' + (text.charAt(at) - 'a' + 13) % 26);
                fault(1, text.substring(0, first) + "^" + text.substring(first, at) + other + text.substring(at + 1));
            }
        }
    }

    // ---- FAULTS

    void termsI_theFirstFaultFromTheLeft() {
        fault(4, "lake mice ^101;!");
        fault(1, "lake mice 5^!;house a north weight 100");
        fault(3, TWO + ";house ^a east weight 100");
        fault(5, FIVE + ";^house a east weight 100");
        fault(2, TWO + ";corks ^c blue 99");
        fault(3, TWO + ";corks a red 1;corks a ^red 99");
        fault(4, TWO + ";corks a red ^99;corks a red 1");
        fault(6, "^house a north weight 100;lake");
        fault(2, TWO + ";rope ^c c");
        fault(1, TWO + ";rope ^5 c");
    }

    void termsI_ofOnePlaceTheLeastNumber() {
        // At the end there lacks a LINE (1) and a house (6).
        fault(1, "^");
        fault(1, "lake^");
        fault(1, "lake mice 5;^");
        fault(1, "lake mice 5; ^");
        // A word that begins lines is no NAME (1), nor is it told (2).
        fault(1, TWO + ";corks ^lake red 1");
        // No LINE (1), and none ahead of the lake (6).
        fault(1, "^boat");
        // A second HOUSE that isn't told (2) isn't one to which there is a rope (3).
        fault(2, TWO + ";rope a b;rope a ^c");
    }

    void termsI_aSecondLakeIsAFaultAtItsWord() {
        fault(3, "lake mice 5;^lake mice 5");
        fault(3, TWO + ";  ^lake mice 5");
        fault(3, TWO + ";^lake");
        fault(3, TWO + ";^lake mice 999");
    }

    void termsI_anyLineAheadOfTheLakeLacksIt() {
        for (String word : LINE_WORDS) {
            if (!word.equals("lake")) {
                fault(6, "^" + word);
                fault(6, "  ^" + word + " a;lake mice 5");
                fault(6, "^" + word + "!");
            }
        }
        fault(6, "^house a north weight 5;lake mice 5");
    }

    void termsI_atTheEndAHouseIsLacking() {
        fault(6, "lake mice 5^");
        fault(6, "lake mice 5   ^");
        fault(6, "lake mice 5;drinker d red drinks 1^");
        fault(6, "lake mice 5;drinker d red drinks 1;drinker e red drinks 1;drinker f red drinks 1  ^");
        told(1, "lake mice 5;drinker d red drinks 1;house a north weight 5");
    }

    void termsI_theFullestText() {
        String text = full();
        due.is("it has room on the tape", text.length() <= 1000, true);
        CorkStreet x = told(5, text);
        int[] sizes = {100, 5, 5, 3, 3, 4, 4, 5};
        for (int what = 0; what < sizes.length; what++) {
            due.is("size(" + what + ") of the fullest", x.size(what), sizes[what]);
        }
        due.is("corks told and given", x.corks(0, 0), 110);
        due.is("weight of a house and three guests", x.house(0, 1), 249);
        // 25 times 30 corks lift 1,800, 80 red ones 240; five houses weigh 495, three guests 150.
        due.is("height of all", x.house(4, 3), 1000 + (1800 + 240 - 495 - 150) / 5);
    }

    /** As much of each sort as a LAKE may have, each number as great as it may be. */
    static String full() {
        StringBuilder s = new StringBuilder("lake mice 100");
        for (char house = 'a'; house <= 'e'; house++) {
            s.append(";house ").append(house).append(house < 'd' ? " north" : " south").append(" weight 99");
        }
        for (String ends : new String[] {"a b", "b c", "c d", "d e", "e a"}) {
            s.append(";rope ").append(ends);
        }
        for (char house = 'a'; house <= 'e'; house++) {
            for (String kind : KINDS) {
                s.append(";corks ").append(house).append(' ').append(kind).append(" 30");
            }
        }
        s.append(";guest f weight 50 at a;guest g weight 50 at a;guest h weight 50 at a");
        s.append(";drinker p red drinks 9;drinker q white drinks 9;drinker r fizzy drinks 9");
        for (int i = 0; i < 4; i++) {
            s.append(";feast e week 9 high 50");
        }
        for (int i = 0; i < 4; i++) {
            s.append(";gave p a 20");
        }
        return s.append(";seen a over 200;seen b below 200;seen c over 200;seen d below 200;seen e over 200").toString();
    }
}
