import java.math.BigInteger;
import java.util.ArrayList;
import java.util.Arrays;
import java.util.HashMap;
import java.util.List;
import java.util.Map;
import java.util.NoSuchElementException;
import java.util.TreeSet;
import java.util.function.Function;

/**
 * The document said again, as plainly and slowly as may be and in another way than CorkStreet does:
 * every choice is tried, nothing is left out, nothing is shared with the program.
 */
final class Model {
    private static final List<String> KINDS = List.of("red", "stale", "soft", "white", "fizzy");
    private static final int[] LIFT = {3, 2, 1, 2, 4};
    private static final Map<String, String> LINES = new HashMap<>();

    static {
        LINES.put("lake", "=mice 0-100");
        LINES.put("house", "new side =weight 0-99");
        LINES.put("rope", "house house");
        LINES.put("corks", "house kind 1-30");
        LINES.put("guest", "new =weight 1-50 =at house");
        LINES.put("drinker", "new drunk =drinks 1-9");
        LINES.put("feast", "house =week 0-9 =high 0-50");
        LINES.put("gave", "drinker house 1-20");
        LINES.put("seen", "house seen");
    }

    private static final Map<String, Integer> ROOM =
            Map.of("house", 5, "rope", 5, "guest", 3, "drinker", 3, "feast", 4, "gave", 4);

    static final class Fault extends Exception {
        private static final long serialVersionUID = 1;
        final int number;
        final int place;

        Fault(int number, int place) {
            super("fault");
            this.number = number;
            this.place = place;
        }
    }

    record Token(String text, int place) {
        boolean isWord() {
            return text.matches("[a-z]{1,8}");
        }

        boolean isWhole() {
            return text.matches("[0-9]{1,3}");
        }
    }

    /** The lines of a text: of each sort, what stood in its slots, as numbers. */
    static final class Text {
        final Map<String, List<int[]>> lines = new HashMap<>();
        final Map<String, String> nameSort = new HashMap<>();
        final Map<String, Integer> nameNumber = new HashMap<>();

        Text() {
            LINES.keySet().forEach(sort -> lines.put(sort, new ArrayList<>()));
        }

        List<int[]> of(String sort) {
            return lines.get(sort);
        }
    }

    /** A state of the lake. */
    static final class Water {
        int[][] corks;
        int[] guestHouse;
        boolean[] tied;
        int seed;
        int week;

        Water copy() {
            Water w = new Water();
            w.corks = new int[corks.length][];
            for (int i = 0; i < corks.length; i++) {
                w.corks[i] = corks[i].clone();
            }
            w.guestHouse = guestHouse.clone();
            w.tied = tied.clone();
            w.seed = seed;
            w.week = week;
            return w;
        }
    }

    StringBuilder tape = new StringBuilder();
    Text text;
    Water now;
    List<Water> past = new ArrayList<>();
    List<Water> images = new ArrayList<>();
    int trouble;
    int fault;
    int place;

    // ---- the text

    static List<Token> tokens(String s) {
        List<Token> all = new ArrayList<>();
        java.util.regex.Matcher m = java.util.regex.Pattern.compile("[a-z]+|[0-9]+|[^ ]", java.util.regex.Pattern.DOTALL).matcher(s);
        while (m.find()) {
            all.add(new Token(m.group(), m.start()));
        }
        all.add(new Token("", s.length()));
        return all;
    }

    static Text parse(String s) throws Fault {
        Text t = new Text();
        List<Token> all = tokens(s);
        int i = 0;
        while (true) {
            Token first = all.get(i++);
            String sort = first.text();
            if (!LINES.containsKey(sort)) {
                throw new Fault(1, first.place());
            }
            boolean lakeTold = !t.of("lake").isEmpty();
            if (sort.equals("lake") && lakeTold) {
                throw new Fault(3, first.place());
            }
            if (!sort.equals("lake") && !lakeTold) {
                throw new Fault(6, first.place());
            }
            if (t.of(sort).size() >= ROOM.getOrDefault(sort, 1000)) {
                throw new Fault(5, first.place());
            }
            List<Integer> slots = new ArrayList<>();
            List<String> wanted = new ArrayList<>(Arrays.asList(LINES.get(sort).split(" ")));
            for (int w = 0; w < wanted.size(); w++) {
                Token token = all.get(i++);
                String want = wanted.get(w);
                if (want.equals("seen")) {
                    if (!token.text().equals("over") && !token.text().equals("below")) {
                        throw new Fault(1, token.place());
                    }
                    slots.add(token.text().equals("over") ? 1 : -1);
                    wanted.add(token.text().equals("over") ? "0-200" : "1-200");
                } else {
                    slot(t, sort, slots, want, token);
                }
            }
            t.of(sort).add(slots.stream().mapToInt(Integer::intValue).toArray());
            Token behind = all.get(i++);
            if (behind.text().isEmpty()) {
                if (t.of("house").isEmpty()) {
                    throw new Fault(6, behind.place());
                }
                return t;
            }
            if (!behind.text().equals(";")) {
                throw new Fault(1, behind.place());
            }
        }
    }

    private static void slot(Text t, String sort, List<Integer> slots, String want, Token token) throws Fault {
        String word = token.text();
        if (want.startsWith("=")) {
            if (!word.equals(want.substring(1))) {
                throw new Fault(1, token.place());
            }
        } else if (want.contains("-")) {
            if (!token.isWhole()) {
                throw new Fault(1, token.place());
            }
            int value = Integer.parseInt(word);
            if (value < Integer.parseInt(want.split("-")[0]) || value > Integer.parseInt(want.split("-")[1])) {
                throw new Fault(4, token.place());
            }
            slots.add(value);
        } else if (want.equals("side")) {
            if (!word.equals("north") && !word.equals("south")) {
                throw new Fault(1, token.place());
            }
            slots.add(word.equals("north") ? 0 : 1);
        } else if (want.equals("kind") || want.equals("drunk")) {
            if (!KINDS.contains(word) || want.equals("drunk") && (word.equals("stale") || word.equals("soft"))) {
                throw new Fault(1, token.place());
            }
            int kind = KINDS.indexOf(word);
            if (want.equals("kind") && t.of("corks").stream().anyMatch(c -> c[0] == slots.get(0) && c[1] == kind)) {
                throw new Fault(3, token.place());
            }
            slots.add(kind);
        } else {
            nameSlot(t, sort, slots, want, token);
        }
    }

    private static void nameSlot(Text t, String sort, List<Integer> slots, String want, Token token) throws Fault {
        String word = token.text();
        if (!token.isWord() || LINES.containsKey(word)) {
            throw new Fault(1, token.place());
        }
        if (want.equals("new")) {
            if (t.nameSort.containsKey(word)) {
                throw new Fault(3, token.place());
            }
            t.nameSort.put(word, sort);
            t.nameNumber.put(word, t.of(sort).size());
            return;
        }
        if (!want.equals(t.nameSort.get(word))) {
            throw new Fault(2, token.place());
        }
        int number = t.nameNumber.get(word);
        if (sort.equals("rope") && slots.size() == 1) {
            int other = slots.get(0);
            if (other == number || t.of("rope").stream().anyMatch(r -> r[0] == other && r[1] == number || r[1] == other && r[0] == number)) {
                throw new Fault(3, token.place());
            }
        }
        if (sort.equals("seen") && t.of("seen").stream().anyMatch(x -> x[0] == number)) {
            throw new Fault(3, token.place());
        }
        slots.add(number);
    }

    static Water first(Text t, int hoarding) {
        Water w = new Water();
        w.corks = new int[t.of("house").size()][5];
        for (int[] c : t.of("corks")) {
            w.corks[c[0]][c[1]] += c[2];
        }
        for (int[] g : t.of("gave")) {
            if ((hoarding & 1 << g[0]) == 0) {
                w.corks[g[1]][t.of("drinker").get(g[0])[0]] += g[2];
            }
        }
        w.guestHouse = t.of("guest").stream().mapToInt(g -> g[1]).toArray();
        w.tied = new boolean[t.of("rope").size()];
        Arrays.fill(w.tied, true);
        return w;
    }

    // ---- heights

    int count(String sort) {
        return text == null ? 0 : text.of(sort).size();
    }

    boolean north(int h) {
        return text.of("house").get(h)[0] == 0;
    }

    int weight(Water w, int h) {
        int sum = text.of("house").get(h)[1];
        for (int g = 0; g < count("guest"); g++) {
            sum += w.guestHouse[g] == h ? text.of("guest").get(g)[0] : 0;
        }
        return sum;
    }

    static int lift(int[] corks) {
        int sum = 0;
        for (int k = 0; k < 5; k++) {
            sum += corks[k] * LIFT[k];
        }
        return sum;
    }

    TreeSet<Integer> raft(Water w, int h) {
        TreeSet<Integer> raft = new TreeSet<>();
        raft.add(h);
        boolean grew = true;
        while (grew) {
            grew = false;
            for (int k = 0; k < w.tied.length; k++) {
                int[] r = text.of("rope").get(k);
                if (w.tied[k] && raft.contains(r[0]) != raft.contains(r[1])) {
                    raft.add(r[0]);
                    raft.add(r[1]);
                    grew = true;
                }
            }
        }
        return raft;
    }

    int height(Water w, int h, int[] more) {
        int sum = 0;
        TreeSet<Integer> raft = raft(w, h);
        for (int i : raft) {
            sum += lift(w.corks[i]) - weight(w, i) + more[i];
        }
        return (int) Math.floor((double) sum / raft.size());
    }

    int height(Water w, int h) {
        return height(w, h, new int[5]);
    }

    int underBits(Water w) {
        int bits = 0;
        for (int h = 0; h < count("house"); h++) {
            bits |= height(w, h) < 0 ? 1 << h : 0;
        }
        return bits;
    }

    int dryHouses(Water w) {
        return count("house") - Integer.bitCount(underBits(w));
    }

    static void soften(int[] corks) {
        corks[2] = corks[1];
        corks[1] = corks[0];
        corks[0] = 0;
    }

    Water after(Water w, int weeks) {
        Water v = w.copy();
        for (int i = 0; i < weeks; i++) {
            for (int[] corks : v.corks) {
                soften(corks);
            }
        }
        return v;
    }

    static boolean eat(int[] corks) {
        int best = -1;
        for (int k = 0; k < 5; k++) {
            if (corks[k] > 0 && (best < 0 || LIFT[k] < LIFT[best])) {
                best = k;
            }
        }
        if (best < 0) {
            return false;
        }
        corks[best]--;
        return true;
    }

    int passWeek(Water w) {
        int gone = 0;
        for (int[] corks : w.corks) {
            soften(corks);
        }
        for (int h = 0; h < count("house"); h++) {
            if (north(h)) {
                w.seed = (int) ((75L * w.seed + 74) % 65537);
                if (w.seed % 100 < text.of("lake").get(0)[0] && eat(w.corks[h])) {
                    gone++;
                }
            }
        }
        w.week++;
        return gone;
    }

    int lowestHeight(Water w, int[] more) {
        int low = Integer.MAX_VALUE;
        for (int h = 0; h < count("house"); h++) {
            low = Math.min(low, height(w, h, more));
        }
        return low;
    }

    /** The first of so many with the greatest score. */
    static int firstBest(int many, Function<Integer, Integer> score) {
        int best = -2;
        for (int i = 0; i < many; i++) {
            if (best < 0 || score.apply(i) > score.apply(best)) {
                best = i;
            }
        }
        return best;
    }

    // ---- plans

    /** Days and houses of the drinkers, two numbers each; null if there is no plan. */
    int[] bestPlan(int n, boolean forFeasts) {
        int[][] best = {null};
        tryPlan(n, forFeasts, 0, new int[2 * count("drinker")], best);
        return best[0];
    }

    int bottles(int[] plan) {
        int sum = 0;
        for (int d = 0; d < count("drinker"); d++) {
            sum += plan[2 * d] * text.of("drinker").get(d)[1];
        }
        return sum;
    }

    private void tryPlan(int n, boolean forFeasts, int d, int[] plan, int[][] best) {
        if (d == count("drinker")) {
            int[] old = best[0];
            boolean better = old == null || bottles(plan) < bottles(old)
                    || bottles(plan) == bottles(old) && Arrays.compare(plan, old) < 0;
            if (better && goodPlan(plan, forFeasts)) {
                best[0] = plan.clone();
            }
            return;
        }
        for (int days = 0; days <= n; days++) {
            for (int h = 0; h < count("house"); h++) {
                plan[2 * d] = days;
                plan[2 * d + 1] = days == 0 ? -2 : h;
                tryPlan(n, forFeasts, d + 1, plan, best);
            }
        }
    }

    private boolean goodPlan(int[] plan, boolean forFeasts) {
        Water w = now.copy();
        for (int d = 0; d < count("drinker"); d++) {
            if (plan[2 * d] > 0) {
                int[] drinker = text.of("drinker").get(d);
                w.corks[plan[2 * d + 1]][drinker[0]] += plan[2 * d] * drinker[1];
            }
        }
        if (underBits(w) != 0) {
            return false;
        }
        return !forFeasts || firstWet(w) < 0;
    }

    int firstWet(Water w) {
        for (int f = 0; f < count("feast"); f++) {
            int[] feast = text.of("feast").get(f);
            if (height(after(w, feast[1]), feast[0]) < feast[2]) {
                return f;
            }
        }
        return -2;
    }

    // ---- hoarders

    int firstUnlike(int set) {
        Water w = first(text, set);
        for (int i = 0; i < count("seen"); i++) {
            int[] seen = text.of("seen").get(i);
            if (height(w, seen[0]) != seen[1] * seen[2]) {
                return i;
            }
        }
        return -2;
    }

    List<Integer> hoards() {
        List<Integer> all = new ArrayList<>();
        for (int set = 0; set < 1 << count("drinker"); set++) {
            if (firstUnlike(set) == -2) {
                all.add(set);
            }
        }
        return all;
    }

    int leaves(int d) {
        int with = (int) hoards().stream().filter(s -> (s & 1 << d) != 0).count();
        return Math.max(with, hoards().size() - with);
    }

    int whom() {
        return hoards().isEmpty() ? -2 : firstBest(count("drinker"), d -> -leaves(d));
    }

    // ---- king and village

    int play(Water w, int moves, boolean king) {
        if (moves == 0) {
            return dryHouses(w);
        }
        int best = king ? play(w, moves - 1, false) : -1;
        if (king) {
            for (int k = 0; k < w.tied.length; k++) {
                if (w.tied[k]) {
                    w.tied[k] = false;
                    best = Math.min(best, play(w, moves - 1, false));
                    w.tied[k] = true;
                }
            }
            return best;
        }
        for (int h = 0; h < count("house"); h++) {
            w.corks[h][3]++;
            best = Math.max(best, play(w, moves - 1, true));
            w.corks[h][3]--;
        }
        return best;
    }

    int kingsRope(int moves) {
        Water w = now.copy();
        int least = play(w, moves, true);
        if (play(w, moves - 1, false) == least) {
            return -2;
        }
        for (int k = 0; k < w.tied.length; k++) {
            if (w.tied[k]) {
                w.tied[k] = false;
                int then = play(w, moves - 1, false);
                w.tied[k] = true;
                if (then == least) {
                    return k;
                }
            }
        }
        return -2;
    }

    // ---- mice

    /** Sum over all ways of the share in 100^n, times what is counted at its end. */
    BigInteger chance(int h, int[] corks, int n, int gone, int what) {
        if (n == 0) {
            int high = lift(corks) - weight(now, h);
            return BigInteger.valueOf(what == 0 ? (high >= 0 ? 1 : 0) : what == 1 ? high + 1000 : gone);
        }
        int mice = text.of("lake").get(0)[0];
        int[] kept = corks.clone();
        soften(kept);
        int[] bitten = kept.clone();
        int more = eat(bitten) ? 1 : 0;
        return chance(h, kept, n - 1, gone, what).multiply(BigInteger.valueOf(100 - mice))
                .add(chance(h, bitten, n - 1, gone + more, what).multiply(BigInteger.valueOf(mice)));
    }

    long fraction(int h, int n, int what, boolean lower) {
        BigInteger upper = chance(h, now.corks[h], n, 0, what);
        BigInteger below = BigInteger.valueOf(100).pow(n);
        BigInteger common = upper.gcd(below);
        return (lower ? below : upper).divide(common).longValueExact();
    }

    // ---- the face, by names

    private boolean in(int v, int least, int most) {
        return v >= least && v <= most;
    }

    /** Notes a trouble if there is one: the first of the numbers whose condition doesn't hold. */
    private boolean stop(boolean there, boolean number) {
        trouble = !there ? 1 : !number ? 2 : 0;
        return trouble != 0;
    }

    private boolean stopBy(int why, boolean so) {
        trouble = so ? why : 0;
        return so;
    }

    int feed(String twenty) {
        if (tape.length() + 20 > 1000) {
            return -1;
        }
        tape.append(twenty);
        return tape.length();
    }

    int lake(int n) {
        if (stop(true, in(n, 0, tape.length()))) {
            return -1;
        }
        String told = tape.substring(0, n);
        tape.setLength(0);
        try {
            text = parse(told);
            now = first(text, 0);
            past.clear();
            images.clear();
            fault = 0;
            return count("house");
        } catch (Fault f) {
            fault = f.number;
            place = f.place;
            trouble = 4;
            return -1;
        }
    }

    private void act() {
        past.add(now.copy());
        if (past.size() > 16) {
            past.remove(0);
        }
    }

    /** Answers a call; booleans as 1 and 0, led's exception as -99. */
    long call(String name, int a, int b, int c, boolean lower) {
        boolean lakeIs = text != null;
        boolean house = in(a, 0, count("house") - 1);
        switch (name) {
            case "fault": return fault;
            case "where": return trouble == 4 ? place : -1;
            case "trouble": return trouble;
            case "size": return size(a);
            case "led":
                if (lakeIs) {
                    int[] all = java.util.stream.IntStream.range(0, count("house")).filter(h -> height(now, h) < 0).toArray();
                    return in(a, 0, all.length - 1) ? all[a] : -99;
                }
                return -99;
            case "house":
                if (stop(house && in(b, 0, 5), true)) {
                    return -1;
                }
                return houseFact(a, b);
            case "corks": return stop(house, in(b, 0, 4)) ? -1 : now.corks[a][b];
            case "guest":
                if (stop(in(a, 0, count("guest") - 1) && in(b, 0, 1), true)) {
                    return -1;
                }
                return b == 0 ? text.of("guest").get(a)[0] : now.guestHouse[a];
            case "rope":
                if (stop(in(a, 0, count("rope") - 1) && in(b, 0, 2), true)) {
                    return -1;
                }
                int[] r = text.of("rope").get(a);
                return b == 0 ? Math.min(r[0], r[1]) : b == 1 ? Math.max(r[0], r[1]) : now.tied[a] ? 1 : 0;
            case "under": return stop(lakeIs, true) ? -1 : underBits(now);
            case "lowest": return stop(lakeIs, true) ? -1 : firstBest(count("house"), h -> -height(now, h));
            case "rafts":
                return stop(lakeIs, true) ? -1
                        : java.util.stream.IntStream.range(0, count("house")).mapToObj(h -> raft(now, h)).distinct().count();
            case "tilt":
                if (stop(house, true)) {
                    return -1;
                }
                int[] above = raft(now, a).stream().mapToInt(h -> lift(now.corks[h]) - weight(now, h)).sorted().toArray();
                return above[above.length - 1] - above[0];
            default: return callMore(name, a, b, c, lower, lakeIs, house);
        }
    }

    private long houseFact(int h, int what) {
        switch (what) {
            case 0: return north(h) ? 0 : 1;
            case 1: return weight(now, h);
            case 2: return lift(now.corks[h]);
            case 3: return height(now, h) + 1000;
            case 4: return raft(now, h).stream().mapToInt(i -> 1 << i).sum();
            default:
                return java.util.stream.IntStream.range(0, count("guest")).filter(g -> now.guestHouse[g] == h).map(g -> 1 << g).sum();
        }
    }

    private long size(int what) {
        if (what == 12) {
            return tape.length();
        }
        if (!in(what, 0, 11)) {
            return -1;
        }
        if (text == null) {
            return 0;
        }
        List<String> sorts = List.of("lake", "house", "rope", "guest", "drinker", "feast", "gave", "seen");
        if (what == 0) {
            return text.of("lake").get(0)[0];
        }
        if (what <= 7) {
            return count(sorts.get(what));
        }
        return what == 8 ? now.week : what == 9 ? now.seed : what == 10 ? past.size() : images.size();
    }

    private long callMore(String name, int a, int b, int c, boolean lower, boolean lakeIs, boolean house) {
        boolean drinker = in(a, 0, count("drinker") - 1);
        switch (name) {
            case "heightIn": return stop(house, in(b, 0, 20)) ? -1 : height(after(now, b), a) + 1000;
            case "underIn": return stop(lakeIs, in(a, 0, 20)) ? -1 : underBits(after(now, a));
            case "sinks":
                if (stop(house, true)) {
                    return -1;
                }
                return java.util.stream.IntStream.rangeClosed(0, 20).filter(n -> height(after(now, n), a) < 0).findFirst().orElse(-2);
            case "wetFeast": return stop(lakeIs, true) ? -1 : firstWet(now);
            case "aunt":
                if (stop(house, in(b, 0, 99) && in(c, 0, 4))) {
                    return -1;
                }
                for (int n = 0; n <= 300; n++) {
                    int[] more = new int[5];
                    more[a] = n * LIFT[c] - b;
                    if (height(now, a, more) >= 0) {
                        return n;
                    }
                }
                return -2;
            case "bestStay":
                return stop(lakeIs, in(a, 0, 99)) ? -1 : firstBest(count("house"), h -> {
                    int[] more = new int[5];
                    more[h] = -a;
                    return lowestHeight(now, more);
                });
            case "bestMove":
                return stop(in(a, 0, count("guest") - 1), true) ? -1 : firstBest(count("house"), h -> {
                    Water w = now.copy();
                    w.guestHouse[a] = h;
                    return lowestHeight(w, new int[5]);
                });
            case "bestCut":
                if (stop(lakeIs, true)) {
                    return -1;
                }
                Function<Integer, Integer> gain = k -> {
                    Water w = now.copy();
                    w.tied[k] = false;
                    return dryHouses(w) - dryHouses(now);
                };
                int rope = firstBest(count("rope"), gain);
                return rope >= 0 && gain.apply(rope) > 0 ? rope : -2;
            case "plan":
            case "feasts":
                if (stop(lakeIs, in(a, 1, 4))) {
                    return -1;
                }
                int[] plan = bestPlan(a, name.equals("feasts"));
                return plan == null ? -2 : bottles(plan);
            case "planDays":
            case "planHouse":
            case "feastHouse":
                if (stop(drinker, in(b, 1, 4))) {
                    return -1;
                }
                int[] way = bestPlan(b, name.equals("feastHouse"));
                return way == null ? -2 : way[2 * a + (name.equals("planDays") ? 0 : 1)];
            case "sets": return stop(lakeIs, true) ? -1 : hoards().size();
            case "setAt": return stop(lakeIs && in(a, 0, hoards().size() - 1), true) ? -1 : hoards().get(a);
            case "could": return stop(lakeIs, true) ? -1 : hoards().stream().reduce(0, (x, y) -> x | y);
            case "surely": return stop(lakeIs, true) ? -1 : hoards().stream().reduce((x, y) -> x & y).orElse(0);
            case "ask": return stop(lakeIs, true) ? -1 : whom();
            case "askLeaves": return stop(lakeIs, true) ? -1 : whom() < 0 ? -2 : leaves(whom());
            case "judge": return stop(lakeIs, true) ? -1 : firstUnlike(0);
            case "value": return stop(lakeIs, in(a, 0, 4)) ? -1 : play(now.copy(), a, true);
            case "kingCuts": return stop(lakeIs, in(a, 1, 4)) ? -1 : kingsRope(a);
            default: return callLast(name, a, b, c, lower, lakeIs, house);
        }
    }

    private long callLast(String name, int a, int b, int c, boolean lower, boolean lakeIs, boolean house) {
        switch (name) {
            case "dry":
            case "mean":
            case "losses":
                if (stop(house, in(b, 0, 4)) || stopBy(5, !north(a))) {
                    return -1;
                }
                return fraction(a, b, List.of("dry", "mean", "losses").indexOf(name), lower);
            case "safest":
                if (stop(lakeIs, in(a, 0, 4))) {
                    return -1;
                }
                int best = -2;
                for (int h = 0; h < count("house"); h++) {
                    if (north(h) && (best < 0 || chance(h, now.corks[h], a, 0, 0).compareTo(chance(best, now.corks[best], a, 0, 0)) > 0)) {
                        best = h;
                    }
                }
                return best;
            case "weeks": {
                if (stop(house, in(b, 0, 65536) && in(c, 0, 20))) {
                    return -1;
                }
                Water w = now.copy();
                w.seed = b;
                for (int i = 0; i < c; i++) {
                    passWeek(w);
                }
                return height(w, a) + 1000;
            }
            case "eaten":
            case "sunkAt": {
                if (stop(lakeIs, in(a, 0, 65536) && in(b, 0, 20))) {
                    return -1;
                }
                Water w = now.copy();
                w.seed = a;
                int gone = 0;
                int sunk = underBits(w) != 0 ? 0 : -2;
                for (int i = 1; i <= b; i++) {
                    gone += passWeek(w);
                    if (sunk < 0 && underBits(w) != 0) {
                        sunk = i;
                    }
                }
                return name.equals("eaten") ? gone : sunk;
            }
            default: return callAct(name, a, b, lakeIs);
        }
    }

    private long callAct(String name, int a, int b, boolean lakeIs) {
        boolean houseB = in(b, 0, count("house") - 1);
        switch (name) {
            case "drink": {
                if (stop(in(a, 0, count("drinker") - 1) && houseB, true)) {
                    return -1;
                }
                int kind = text.of("drinker").get(a)[0];
                if (stopBy(3, now.corks[b][kind] >= 999)) {
                    return -1;
                }
                act();
                return ++now.corks[b][kind];
            }
            case "move":
                if (stop(in(a, 0, count("guest") - 1) && houseB, true) || stopBy(5, now.guestHouse[a] == b)) {
                    return 0;
                }
                act();
                now.guestHouse[a] = b;
                return 1;
            case "cut":
            case "tie":
                if (stop(in(a, 0, count("rope") - 1), true) || stopBy(5, now.tied[a] == name.equals("tie"))) {
                    return 0;
                }
                act();
                now.tied[a] = name.equals("tie");
                return 1;
            case "week":
                if (stop(lakeIs, true) || stopBy(3, now.week >= 999)) {
                    return -1;
                }
                act();
                passWeek(now);
                return underBits(now);
            case "seed":
                if (stop(lakeIs, in(a, 0, 65536))) {
                    return 0;
                }
                now.seed = a;
                return 1;
            case "undo":
                if (stopBy(6, past.isEmpty())) {
                    return 0;
                }
                now = past.remove(past.size() - 1);
                return 1;
            case "image":
                if (stop(lakeIs, true) || stopBy(3, images.size() >= 3)) {
                    return -1;
                }
                images.add(now.copy());
                return images.size() - 1;
            case "back":
                if (stop(in(a, 0, images.size() - 1), true)) {
                    return 0;
                }
                now = images.get(a).copy();
                past.clear();
                return 1;
            default: throw new NoSuchElementException(name);
        }
    }
}
