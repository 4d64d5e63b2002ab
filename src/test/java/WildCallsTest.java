import java.util.ArrayList;
import java.util.List;
import java.util.Random;

/**
 * Objects full of nodes, 512 calls each from a fixed seed, with any arguments: no call throws what the
 * document does not name for it, and answers that hang together do so where terms are too long to write.
 */
public final class WildCallsTest {
    private static final int[] ODD = {-1, -2, 40, 41, 63, 64, 512, Integer.MIN_VALUE, Integer.MAX_VALUE};
    private static final int OBJECTS = 250;
    private static final int CALLS = 512;
    // More than are asked about a pair of nodes.
    private static final int QUESTIONS = 24;

    private static int wrong = 0;

    private final Random random;
    private final List<long[]> changes = new ArrayList<>();
    private TermWeaver x = new TermWeaver();
    private int nodes = 0;

    private WildCallsTest(int seed) {
        random = new Random(seed);
    }

    public static void main(String[] args) {
        for (int seed = 0; seed < OBJECTS && wrong < 20; seed++) {
            new WildCallsTest(seed).go(seed);
        }
        System.out.println(wrong == 0 ? "wild calls are answered" : wrong + " faults in wild calls");
        if (wrong != 0) {
            System.exit(1);
        }
    }

    private void go(int seed) {
        for (int call = 0; call < CALLS; call++) {
            long[] made = anyCall();
            String thrown = thrownBy(made);
            if (!isNamed((int) made[0], thrown)) {
                fault("object " + seed + ", call " + call + " of kind " + made[0] + " threw " + thrown);
            }
            if (made[0] < 5) {
                changes.add(made);
            }
            if (made[0] < 3 && thrown.isEmpty()) {
                nodes++;
            }
        }
        hangTogether(seed);
    }

    private String thrownBy(long[] made) {
        try {
            make((int) made[0], (int) made[1], made[2], (int) made[3]);
            return "";
        } catch (RuntimeException e) {
            return e.getClass().getSimpleName();
        }
    }

    private static void fault(String text) {
        wrong++;
        System.out.println(text);
    }

    private static boolean isNamed(int kind, String thrown) {
        switch (thrown) {
            case "":
                return true;
            case "IllegalArgumentException":
                return kind > 1;
            case "IllegalStateException":
                return kind < 4;
            case "IndexOutOfBoundsException":
                return kind == 12;
            default:
                return false;
        }
    }

    private int any() {
        return random.nextInt(40) == 0 ? ODD[random.nextInt(ODD.length)] : random.nextInt(Math.max(1, nodes));
    }

    private int anyOrNone() {
        return random.nextInt(5) == 0 ? -1 : any();
    }

    /** The kind of a call and three arguments, of which it takes those that it needs. */
    private long[] anyCall() {
        int kind = random.nextInt(14);
        switch (kind) {
            case 2:
                return new long[] {kind, random.nextInt(40) == 0 ? any() : random.nextInt(2), anyOrNone(), anyOrNone()};
            case 4:
                return new long[] {kind, random.nextInt(8) == 0 ? any() : random.nextInt(2), 0, 0};
            case 12:
                return new long[] {kind, any(), random.nextBoolean() ? random.nextLong() : random.nextInt(50), 0};
            default:
                return new long[] {kind, any(), any(), 0};
        }
    }

    private void make(int kind, int a, long place, int c) {
        int b = (int) place;
        switch (kind) {
            case 0, 1 -> x.variable();
            case 2 -> x.term(a, b, c);
            case 3 -> x.unify(a, b);
            case 4 -> x.undo(a);
            case 5 -> x.count(a);
            case 6 -> x.same(a, b);
            case 7 -> x.leader(a);
            case 8 -> x.size(a);
            case 9 -> x.depth(a);
            case 10 -> x.variables(a);
            case 11 -> x.matches(a, b);
            case 12 -> x.at(a, place);
            default -> x.common(a, b);
        }
    }

    private void takeNewObject() {
        x = new TermWeaver();
        for (long[] change : changes) {
            thrownBy(change);
        }
    }

    /** Nothing is promised of an object after its 512th call, so that new ones are asked. */
    private void hangTogether(int seed) {
        int used = CALLS;
        for (int s = 0; s < nodes; s++) {
            for (int t = 0; t < nodes; t++) {
                if (used + QUESTIONS > CALLS) {
                    takeNewObject();
                    used = changes.size();
                }
                used += QUESTIONS;
                if (!hangsTogether(s, t)) {
                    fault("object " + seed + ": the answers of " + s + " and " + t + " do not hang together");
                }
            }
        }
    }

    private boolean hangsTogether(int s, int t) {
        boolean same = x.same(s, t);
        boolean bothWays = x.matches(s, t) && x.matches(t, s);
        return same == (x.leader(s) == x.leader(t))
            && (!same || bothWays && x.size(s) == x.size(t) && x.depth(s) == x.depth(t))
            && x.common(s, t) == x.common(t, s)
            && x.common(s, t) <= Math.min(x.size(s), x.size(t))
            && (!same || x.common(s, t) == x.size(s))
            && (!x.matches(s, t) || x.common(s, t) == x.size(s))
            && (!bothWays || x.variables(s) == x.variables(t));
    }
}
