import java.lang.reflect.InvocationTargetException;
import java.lang.reflect.Method;
import java.util.ArrayList;
import java.util.Comparator;
import java.util.List;
import java.util.Set;
import java.util.function.Consumer;
import java.util.function.ToLongFunction;

/**
 * What the tests of boundary cases share. Each test is a method named after its promise (promise07_..) or after the part
 * of the terms that it looks at (termsI_..), and stands for one sentence of the document. Each check has an object of its
 * own, so that none is used for more than the 512 calls of which something is promised (but for the 999 corks and weeks,
 * which can't be reached by so few).
 */
abstract class Bounds {
    static final int NONE = CorkStreet.NONE;
    static final int LEAST = Integer.MIN_VALUE;
    static final int MOST = Integer.MAX_VALUE;
    static final String NO_LAKE = "";
    /** The least LAKE there is. */
    static final String BARE = "lake mice 0;house a north weight 0";
    static final String[] KINDS = {"red", "stale", "soft", "white", "fizzy"};
    static final int[] LIFTS = {3, 2, 1, 2, 4};
    static final String[] LINE_WORDS = {"lake", "house", "rope", "corks", "guest", "drinker", "feast", "gave", "seen"};

    /** A question or an act of one number. */
    interface OfNumber {
        long call(CorkStreet x, int n);
    }

    final Due due;

    Bounds(Due due) {
        this.due = due;
    }

    /** Runs all tests of a class by their names, and notes which promises they are named after. */
    final int run(Set<Integer> promises) {
        List<Method> tests = new ArrayList<>();
        for (Method method : getClass().getDeclaredMethods()) {
            if (method.getName().matches("(promise\\d\\d|terms(I|II|III|IV))_\\w+")) {
                tests.add(method);
            }
        }
        tests.sort(Comparator.comparing(Method::getName));
        for (Method test : tests) {
            due.begin(test.getName());
            try {
                test.invoke(this);
            } catch (InvocationTargetException e) {
                due.is("throws " + e.getCause(), true, false);
            } catch (IllegalAccessException e) {
                throw new IllegalStateException(e);
            }
            if (test.getName().startsWith("promise")) {
                promises.add(Integer.parseInt(test.getName().substring(7, 9)));
            }
        }
        due.begin("");
        return tests.size();
    }

    /** A new object with the LAKE of a text. */
    final CorkStreet made(String text) {
        CorkStreet x = new CorkStreet();
        if (!text.isEmpty()) {
            due.is("houses of " + text, Due.lake(x, text) > 0, true);
        }
        return x;
    }

    final CorkStreet made(String text, Consumer<CorkStreet> acts) {
        CorkStreet x = made(text);
        acts.accept(x);
        return x;
    }

    /** What a call that answers by a boolean answered, refused ones as NONE. */
    static long bit(boolean answer) {
        return answer ? 1 : NONE;
    }

    static long led(CorkStreet x, int i) {
        try {
            return x.led(i);
        } catch (java.util.NoSuchElementException e) {
            return NONE;
        }
    }

    /** What an object tells of itself NOW: alike, if a call changed nothing. */
    static String picture(CorkStreet x) {
        StringBuilder s = new StringBuilder();
        for (int what = 0; what <= 12; what++) {
            s.append(x.size(what)).append(' ');
        }
        for (int h = 0; h < x.size(1); h++) {
            for (int what = 0; what <= 5; what++) {
                s.append(x.house(h, what)).append(' ');
            }
            for (int kind = 0; kind < 5; kind++) {
                s.append(x.corks(h, kind)).append(' ');
            }
        }
        for (int g = 0; g < x.size(3); g++) {
            s.append(x.guest(g, 0)).append(' ').append(x.guest(g, 1)).append(' ');
        }
        for (int k = 0; k < x.size(2); k++) {
            s.append(x.rope(k, 0)).append(' ').append(x.rope(k, 1)).append(' ').append(x.rope(k, 2)).append(' ');
        }
        s.append(x.under()).append(' ').append(x.wetFeast()).append(' ').append(x.plan(2)).append(' ').append(x.feasts(2));
        s.append(' ').append(x.sets()).append(' ').append(x.judge()).append(' ').append(x.value(2)).append(' ').append(x.eaten(1, 3));
        return s.toString();
    }

    /** Some TROUBLE that isn't the one which is due: lake(-1) is always refused by 2, back(-1) by 1. */
    private static void otherTrouble(CorkStreet x, int why) {
        if (why == 2) {
            x.back(-1);
        } else {
            x.lake(-1);
        }
    }

    /** A call that is refused: it answers NONE (or false), tells why, and leaves all as it was. */
    final void refused(CorkStreet x, String what, int why, ToLongFunction<CorkStreet> call) {
        String before = picture(x);
        int fault = x.fault();
        otherTrouble(x, why);
        due.is(what, call.applyAsLong(x), NONE);
        due.is("trouble() behind " + what, x.trouble(), why);
        due.is("where() behind " + what, x.where(), NONE);
        due.is("fault() behind " + what, x.fault(), fault);
        due.is("all as it was behind " + what, picture(x), before);
    }

    final void refused(String text, String what, int why, ToLongFunction<CorkStreet> call) {
        refused(made(text), what, why, call);
    }

    /** A call that isn't refused. */
    final void taken(CorkStreet x, String what, long answer, ToLongFunction<CorkStreet> call) {
        otherTrouble(x, 0);
        due.is(what, call.applyAsLong(x), answer);
        due.is("trouble() behind " + what, x.trouble(), 0);
        due.is("where() behind " + what, x.where(), NONE);
    }

    /** A question that isn't refused: it leaves all as it was, and is answered alike again. */
    final void answers(CorkStreet x, String what, long answer, ToLongFunction<CorkStreet> call) {
        String before = picture(x);
        taken(x, what, answer, call);
        taken(x, what + " again", answer, call);
        due.is("all as it was behind " + what, picture(x), before);
    }

    /** Such a question as the first of all, too: none lives on what another one worked out. */
    final void answers(String text, String what, long answer, ToLongFunction<CorkStreet> call) {
        taken(made(text), what + " at first", answer, call);
        answers(made(text), what, answer, call);
    }

    /** Of a number the least and the greatest are taken, what lies beyond them is refused. */
    final void bounded(String text, String what, int least, int most, int why, OfNumber call) {
        for (int n : new int[] {least, most}) {
            CorkStreet x = made(text);
            otherTrouble(x, 0);
            due.is(what + " of " + n + " isn't refused", call.call(x, n) != NONE, true);
            due.is("trouble() behind " + what + " of " + n, x.trouble(), 0);
        }
        for (int n : new int[] {least - 1, most + 1, LEAST, MOST}) {
            refused(text, what + " of " + n, why, x -> call.call(x, n));
        }
    }

    /** Without a LAKE, or without one of that sort, no number is taken. */
    final void never(String text, String what, int why, OfNumber call) {
        for (int n : new int[] {0, 1, -1, LEAST, MOST}) {
            refused(text, what + " of " + n, why, x -> call.call(x, n));
        }
    }
}
