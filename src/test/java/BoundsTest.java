import java.util.Set;
import java.util.TreeSet;

/** Each sentence of the document that names a boundary case, by a test of its own; each promise has one at least. */
public final class BoundsTest {
    private static final int PROMISES = 54;

    private BoundsTest() {
    }

    public static void main(String[] args) {
        Due due = new Due();
        Bounds[] parts = {new BoundsOfText(due), new BoundsOfLake(due), new BoundsOfNow(due), new BoundsOfAdvice(due),
            new BoundsOfChance(due), new BoundsOfActs(due), new BoundsOfTold(due)};
        Set<Integer> promises = new TreeSet<>();
        int tests = 0;
        for (Bounds part : parts) {
            tests += part.run(promises);
        }
        for (int i = 1; i <= PROMISES; i++) {
            due.is("a test named after promise " + i, promises.contains(i), true);
        }
        System.out.print(tests + " tests, ");
        due.end();
    }
}
