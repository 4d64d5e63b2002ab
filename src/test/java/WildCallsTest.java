import java.util.Random;

/**
 * Objects full of nodes, 512 calls each from a fixed seed, with any arguments: no call throws what the
 * document does not name for it, and answers that hang together do so where terms are too long to write.
 */
public final class WildCallsTest {
    private static final int[] ODD = {-1, -2, 40, 41, 63, 64, 512, Integer.MIN_VALUE, Integer.MAX_VALUE};
    private static final int OBJECTS = 1500;
    private static final int CALLS = 512;

    private static int wrong = 0;

    private final Random random;
    private final TermWeaver x = new TermWeaver();

    private WildCallsTest(int seed) {
        random = new Random(seed);
    }

    public static void main(String[] args) {
        for (int seed = 0; seed < OBJECTS && wrong < 20; seed++) {
            new WildCallsTest(seed).go(seed);
        }
        System.out.println(wrong == 0 ? "wild calls are answered" : wrong + " faults in wild calls");
        if (wrong != 0) {
            System.exit(1);
        }
    }

    private void go(int seed) {
        for (int call = 0; call < CALLS; call++) {
            int kind = random.nextInt(14);
            String thrown = "";
            try {
                make(kind);
            } catch (RuntimeException e) {
                thrown = e.getClass().getSimpleName();
            }
            if (!isNamed(kind, thrown)) {
                fault("object " + seed + ", call " + call + " of kind " + kind + " threw " + thrown);
            }
        }
        hangTogether(seed);
    }

    private static void fault(String text) {
        wrong++;
        System.out.println(text);
    }

    private static boolean isNamed(int kind, String thrown) {
        switch (thrown) {
            case "":
                return true;
            case "IllegalArgumentException":
                return kind > 1;
            case "IllegalStateException":
                return kind < 4;
            case "IndexOutOfBoundsException":
                return kind == 12;
            default:
                return false;
        }
    }

    private int any() {
        return random.nextInt(40) == 0 ? ODD[random.nextInt(ODD.length)] : random.nextInt(Math.max(1, x.count(0)));
    }

    private int anyOrNone() {
        return random.nextInt(5) == 0 ? -1 : any();
    }

    private void make(int kind) {
        switch (kind) {
            case 0, 1 -> x.variable();
            case 2 -> x.term(random.nextInt(40) == 0 ? any() : random.nextInt(2), anyOrNone(), anyOrNone());
            case 3 -> x.unify(any(), any());
            case 4 -> x.undo(random.nextInt(8) == 0 ? any() : random.nextInt(2));
            case 5 -> x.count(any());
            case 6 -> x.same(any(), any());
            case 7 -> x.leader(any());
            case 8 -> x.size(any());
            case 9 -> x.depth(any());
            case 10 -> x.variables(any());
            case 11 -> x.matches(any(), any());
            case 12 -> x.at(any(), random.nextBoolean() ? random.nextLong() : random.nextInt(50));
            default -> x.common(any(), any());
        }
    }

    private void hangTogether(int seed) {
        int count = x.count(0);
        for (int s = 0; s < count; s++) {
            for (int t = 0; t < count; t++) {
                boolean same = x.same(s, t);
                boolean bothWays = x.matches(s, t) && x.matches(t, s);
                boolean holds = same == (x.leader(s) == x.leader(t))
                    && (!same || bothWays && x.size(s) == x.size(t) && x.depth(s) == x.depth(t))
                    && x.common(s, t) == x.common(t, s)
                    && x.common(s, t) <= Math.min(x.size(s), x.size(t))
                    && (!same || x.common(s, t) == x.size(s))
                    && (!x.matches(s, t) || x.common(s, t) == x.size(s))
                    && (!bothWays || x.variables(s) == x.variables(t));
                if (!holds) {
                    fault("object " + seed + ": the answers of " + s + " and " + t + " do not hang together");
                }
            }
        }
    }
}
