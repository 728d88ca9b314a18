import java.util.ArrayList;
import java.util.List;
import java.util.NoSuchElementException;
import java.util.Random;

/** Runs of calls on lakes by chance (always the same ones), each answer compared with the model's. */
public final class ModelTest {
    private static final int LAKES = 700;
    private static final int BROKEN_TEXTS = 6000;
    private static final int CALLS = 150;
    private static final String[] NAMES = {
        "fault", "where", "trouble", "size", "led", "house", "corks", "guest", "rope", "under", "lowest", "rafts",
        "tilt", "heightIn", "underIn", "sinks", "wetFeast", "aunt", "bestStay", "bestMove", "bestCut", "plan",
        "planDays", "planHouse", "feasts", "feastHouse", "sets", "setAt", "could", "surely", "ask", "askLeaves",
        "judge", "value", "kingCuts", "dry", "mean", "safest", "losses", "weeks", "eaten", "sunkAt", "drink", "move",
        "cut", "tie", "week", "seed", "undo", "image", "back"
    };
    private static final String[] ACTS = {"drink", "move", "cut", "tie", "week", "seed", "undo", "image", "back"};
    private static final String[] KINDS = {"red", "stale", "soft", "white", "fizzy"};
    private static final String[] WORDS = {
        "lake", "mice", "house", "north", "south", "weight", "rope", "corks", "red", "stale", "soft", "white", "fizzy",
        "guest", "at", "drinker", "drinks", "feast", "week", "high", "gave", "seen", "over", "below", "a", "bee",
        "cottages", "ninelette", "0", "1", "5", "21", "31", "51", "100", "101", "201", "999", "1000", "00", ";", "A", "-",
        "\t", "\u0000", "\u00e9", " "
    };

    private final Random random = new Random(20261118);
    private final Due due = new Due();

    public static void main(String[] args) {
        new ModelTest().run();
    }

    private void run() {
        for (int i = 0; i < LAKES && !due.failed(); i++) {
            lakeRun(i);
        }
        brokenTexts();
        due.end();
    }

    private int upTo(int most) {
        return random.nextInt(most + 1);
    }

    private String pick(String... of) {
        return of[random.nextInt(of.length)];
    }

    // ---- texts

    private String lakeText() {
        int houses = 1 + upTo(4);
        List<String> rest = new ArrayList<>();
        int[][] corks = new int[houses][5];
        for (int a = 0; a < houses; a++) {
            for (int b = a + 1; b < houses; b++) {
                if (upTo(9) < 4) {
                    rest.add("rope " + (upTo(1) == 0 ? house(a) + " " + house(b) : house(b) + " " + house(a)));
                }
            }
            for (int kind = 0; kind < 5; kind++) {
                if (upTo(9) < 4) {
                    corks[a][kind] = 1 + upTo(upTo(5) == 0 ? 29 : 3);
                    rest.add("corks " + house(a) + " " + KINDS[kind] + " " + corks[a][kind]);
                }
            }
        }
        java.util.Collections.shuffle(rest, random);
        keepFew(rest, "rope", 5);
        List<String> lines = new ArrayList<>();
        for (int h = 0; h < houses; h++) {
            lines.add("house " + house(h) + " " + pick("north", "north", "south") + " weight " + someWeight(corks[h]));
        }
        int guests = upTo(3);
        for (int g = 0; g < guests; g++) {
            rest.add(upTo(rest.size()), "guest g" + letter(g) + " weight " + (1 + upTo(upTo(4) == 0 ? 49 : 4)) + " at " + house(upTo(houses - 1)));
        }
        int drinkers = upTo(3);
        for (int d = 0; d < drinkers; d++) {
            lines.add("drinker d" + letter(d) + " " + pick("red", "white", "fizzy") + " drinks " + (1 + upTo(upTo(1) == 0 ? 8 : 1)));
        }
        for (int i = upTo(drinkers > 0 ? 4 : 0); i > 0; i--) {
            rest.add(upTo(rest.size()), "gave d" + letter(upTo(drinkers - 1)) + " " + house(upTo(houses - 1)) + " " + (1 + upTo(upTo(3) == 0 ? 19 : 1)));
        }
        for (int i = upTo(4); i > 0; i--) {
            rest.add(upTo(rest.size()), "feast " + house(upTo(houses - 1)) + " week " + upTo(upTo(1) == 0 ? 9 : 2) + " high " + upTo(upTo(5) == 0 ? 50 : 4));
        }
        lines.addAll(rest);
        String text = "lake mice " + pick("0", "100", "50", String.valueOf(upTo(100))) + ";" + String.join(";", lines);
        text += seenIn(text, houses, drinkers);
        return upTo(3) == 0 ? text.replace(";", " ; ") : text;
    }

    private static String house(int h) {
        return "h" + letter(h);
    }

    /** Mostly near to what the corks lift in one of the first weeks, so that answers change soon. */
    private int someWeight(int[] corks) {
        int[] old = corks.clone();
        for (int i = upTo(3); i > 0; i--) {
            Model.soften(old);
        }
        return upTo(5) == 0 ? upTo(99) : Math.max(0, Math.min(99, Model.lift(old) - 3 + upTo(6)));
    }

    /** Heights as they are by some set of hoarders, with an error at times. */
    private String seenIn(String text, int houses, int drinkers) {
        Model model = new Model();
        try {
            model.text = Model.parse(text);
        } catch (Model.Fault f) {
            return "";
        }
        Model.Water first = Model.first(model.text, upTo((1 << drinkers) - 1));
        StringBuilder all = new StringBuilder();
        for (int h = houses - 1; h >= 0; h--) {
            int height = model.height(first, h) + (upTo(14) == 0 ? 1 : 0);
            if (upTo(1) == 0 && height >= -200 && height <= 200) {
                all.append(";seen ").append(house(h)).append(height < 0 ? " below " : " over ").append(Math.abs(height));
            }
        }
        return all.toString();
    }

    private static void keepFew(List<String> lines, String sort, int most) {
        int[] kept = {0};
        lines.removeIf(line -> line.startsWith(sort) && ++kept[0] > most);
    }

    private static char letter(int i) {
        return (char) ('a' + i);
    }

    /** A text with a token or two that others stand for, or a line too many. */
    private String broken(String text) {
        List<String> tokens = new ArrayList<>(List.of(text.split("(?<=[ ;])|(?=[ ;])")));
        for (int i = upTo(1); i >= 0; i--) {
            int at = upTo(tokens.size() - 1);
            String token = tokens.get(at);
            switch (upTo(6)) {
                case 0: tokens.set(at, pick(WORDS)); break;
                case 1: tokens.remove(at); break;
                case 2: tokens.add(at, pick(WORDS)); break;
                case 3: tokens.set(at, alike(token, tokens)); break;
                case 4: tokens.set(at, alike(token, List.of(WORDS))); break;
                default: tokens.addAll(List.of(";", pick(text.split(";")))); break;
            }
            if (tokens.isEmpty()) {
                tokens.add(" ");
            }
        }
        String all = String.join("", tokens);
        return all.substring(0, Math.min(all.length(), upTo(9) == 0 ? upTo(all.length()) : 1000));
    }

    /** Another token, a number for a number and a word for a word. */
    private String alike(String token, List<String> tokens) {
        for (int i = 0; i < 50; i++) {
            String other = tokens.get(upTo(tokens.size() - 1));
            if (!other.equals(token) && token.matches("[0-9]+") == other.matches("[0-9]+") && token.matches("[a-z]+") == other.matches("[a-z]+")) {
                return other;
            }
        }
        return token;
    }

    private void brokenTexts() {
        CorkStreet x = new CorkStreet();
        Model model = new Model();
        for (int i = 0; i < BROKEN_TEXTS && !due.failed(); i++) {
            String text = broken(lakeText());
            putText(x, model, text);
            String what = "lake of \"" + text + "\"";
            due.is(what, x.lake(text.length()), model.lake(text.length()));
            due.is("fault of " + what, x.fault(), model.fault);
            due.is("where of " + what, x.where(), model.call("where", 0, 0, 0, false));
            due.is("trouble of " + what, x.trouble(), model.trouble);
            due.is("size(11) of " + what, x.size(11), model.call("size", 11, 0, 0, false));
        }
    }

    private void putText(CorkStreet x, Model model, String text) {
        Due.feed(x, text);
        for (int at = 0; at < text.length(); at += 20) {
            StringBuilder twenty = new StringBuilder(text.substring(at, Math.min(at + 20, text.length())));
            while (twenty.length() < 20) {
                twenty.append(' ');
            }
            model.feed(twenty.toString());
        }
        due.is("bytes of the tape", x.size(12), model.tape.length());
    }

    // ---- calls

    private void lakeRun(int run) {
        CorkStreet x = new CorkStreet();
        Model model = new Model();
        StringBuilder told = new StringBuilder("run " + run);
        int acts = upTo(5);
        for (int i = 0; i < CALLS && !due.failed(); i++) {
            if (i == 0 && upTo(9) > 0 || upTo(80) == 0) {
                newLake(x, model, told);
            }
            String name = upTo(9) < acts ? pick(ACTS) : pick(NAMES);
            int a = upTo(25) == 0 ? wild() : first(model, name);
            int b = upTo(30) == 0 ? wild() : second(model, name);
            int c = upTo(30) == 0 ? wild() : upTo(name.equals("weeks") ? 20 : 4);
            boolean lower = random.nextBoolean();
            told.append(' ').append(name).append('(').append(a).append(", ").append(b).append(", ").append(c).append(')');
            long want = model.call(name, a, b, c, lower);
            due.is(told.toString(), answer(x, name, a, b, c, lower), want);
            due.is("trouble() behind " + told, x.trouble(), model.trouble);
        }
    }

    private void newLake(CorkStreet x, Model model, StringBuilder told) {
        String text = lakeText();
        if (text.length() + model.tape.length() > 1000) {
            return;
        }
        if (upTo(9) == 0) {
            text = broken(text);
        }
        putText(x, model, text);
        int n = upTo(9) == 0 ? text.length() + 40 : text.length();
        told.append(" \"").append(text).append("\" lake(").append(n).append(')');
        due.is(told.toString(), x.lake(n), model.lake(n));
        due.is("trouble() behind " + told, x.trouble(), model.trouble);
    }

    private int wild() {
        int[] all = {-1, 5, 6, 21, 100, 65536, 65537, Integer.MAX_VALUE, Integer.MIN_VALUE, -2, 300};
        return all[random.nextInt(all.length)];
    }

    /** A number of one of so many, or now and then the first that isn't. */
    private int oneOf(int many) {
        return upTo(Math.max(0, upTo(9) == 0 ? many : many - 1));
    }

    private int first(Model model, String name) {
        switch (name) {
            case "size": return upTo(13);
            case "underIn": return upTo(20);
            case "bestStay": return upTo(upTo(1) == 0 ? 99 : 9);
            case "eaten":
            case "sunkAt":
            case "seed": return upTo(65536);
            case "bestMove":
            case "guest":
            case "move": return oneOf(model.count("guest"));
            case "drink":
            case "planDays":
            case "planHouse":
            case "feastHouse": return oneOf(model.count("drinker"));
            case "rope":
            case "cut":
            case "tie": return oneOf(model.count("rope"));
            case "back": return upTo(2) == 0 ? upTo(2) : 3;
            case "setAt": return upTo(7);
            case "plan":
            case "feasts":
            case "kingCuts": return 1 + upTo(3);
            case "value":
            case "safest": return upTo(4);
            default: return oneOf(model.count("house"));
        }
    }

    private int second(Model model, String name) {
        switch (name) {
            case "drink":
            case "move": return oneOf(model.count("house"));
            case "heightIn":
            case "eaten":
            case "sunkAt": return upTo(upTo(1) == 0 ? 20 : 4);
            case "aunt": return upTo(upTo(1) == 0 ? 99 : 9);
            case "weeks": return upTo(65536);
            case "house": return upTo(5);
            case "guest": return upTo(1);
            case "rope": return upTo(2);
            case "planDays":
            case "planHouse":
            case "feastHouse": return 1 + upTo(3);
            default: return upTo(4);
        }
    }

    private static long answer(CorkStreet x, String name, int a, int b, int c, boolean lower) {
        switch (name) {
            case "fault": return x.fault();
            case "where": return x.where();
            case "trouble": return x.trouble();
            case "size": return x.size(a);
            case "led":
                try {
                    return x.led(a);
                } catch (NoSuchElementException e) {
                    return -99;
                }
            case "house": return x.house(a, b);
            case "corks": return x.corks(a, b);
            case "guest": return x.guest(a, b);
            case "rope": return x.rope(a, b);
            case "under": return x.under();
            case "lowest": return x.lowest();
            case "rafts": return x.rafts();
            case "tilt": return x.tilt(a);
            case "heightIn": return x.heightIn(a, b);
            case "underIn": return x.underIn(a);
            case "sinks": return x.sinks(a);
            case "wetFeast": return x.wetFeast();
            case "aunt": return x.aunt(a, b, c);
            case "bestStay": return x.bestStay(a);
            case "bestMove": return x.bestMove(a);
            case "bestCut": return x.bestCut();
            case "plan": return x.plan(a);
            case "planDays": return x.planDays(a, b);
            case "planHouse": return x.planHouse(a, b);
            case "feasts": return x.feasts(a);
            case "feastHouse": return x.feastHouse(a, b);
            case "sets": return x.sets();
            case "setAt": return x.setAt(a);
            case "could": return x.could();
            case "surely": return x.surely();
            case "ask": return x.ask();
            case "askLeaves": return x.askLeaves();
            case "judge": return x.judge();
            case "value": return x.value(a);
            case "kingCuts": return x.kingCuts(a);
            case "dry": return x.dry(a, b, lower);
            case "mean": return x.mean(a, b, lower);
            case "safest": return x.safest(a);
            case "losses": return x.losses(a, b, lower);
            case "weeks": return x.weeks(a, b, c);
            case "eaten": return x.eaten(a, b);
            case "sunkAt": return x.sunkAt(a, b);
            case "drink": return x.drink(a, b);
            case "move": return x.move(a, b) ? 1 : 0;
            case "cut": return x.cut(a) ? 1 : 0;
            case "tie": return x.tie(a) ? 1 : 0;
            case "week": return x.week();
            case "seed": return x.seed(a) ? 1 : 0;
            case "undo": return x.undo() ? 1 : 0;
            case "image": return x.image();
            default: return x.back(a) ? 1 : 0;
        }
    }
}
