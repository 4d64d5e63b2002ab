import java.util.Arrays;

/**
 * Keeps terms that share their parts, makes pairs of them equal by putting terms for variables,
 * takes that back, and tells what each term is then, without ever writing it out.
 */
public final class TermWeaver {
    private static final int MOST_NODES = 40;
    private static final int MOST_EQUATIONS = 20;
    // One pair starts an equation and each of at most 39 merges brings two more.
    private static final int MOST_PAIRS = 2 * MOST_NODES;
    private static final int SYMBOLS = 10;
    private static final int NONE = -1;
    // A kind is 3 * symbol and the number of arguments, so that one number tells symbols apart.
    private static final int VARIABLE = -1;

    private static final int NO_FAULT = 0;
    private static final int CLASH = 1;
    private static final int LOOP = 2;
    private static final int NO_NODE = 3;

    private static final int NODES = 0;
    private static final int EQUATIONS = 1;
    private static final int FREE_VARIABLES = 2;

    private final Nodes nodes;
    private final Equations equations;
    private final Values values;
    private final Pairs pairs;
    private int fault;

    public TermWeaver() {
        nodes = new Nodes();
        equations = new Equations(nodes);
        values = new Values(nodes);
        pairs = new Pairs(values);
        fault = NO_FAULT;
    }

    public int variable() throws IllegalStateException {
        needRoomForNode();
        return makeNode(VARIABLE, NONE, NONE);
    }

    public int term(int symbol, int a, int b) throws IllegalArgumentException, IllegalStateException {
        if (symbol < 0 || symbol >= SYMBOLS) {
            throw new IllegalArgumentException("the symbol is not 0 .. 9");
        }
        if (a == NONE && b != NONE) {
            throw new IllegalArgumentException("a second argument without a first");
        }
        needNodeOrNone(a);
        needNodeOrNone(b);
        needRoomForNode();
        int arguments = (a == NONE ? 0 : 1) + (b == NONE ? 0 : 1);
        return makeNode(3 * symbol + arguments, a, b);
    }

    public int unify(int s, int t) throws IllegalArgumentException, IllegalStateException {
        if (!nodes.has(s) || !nodes.has(t)) {
            fault = NO_NODE;
            throw new IllegalArgumentException("no such node");
        }
        fault = NO_FAULT;
        if (equations.areFull()) {
            throw new IllegalStateException("there are 20 equations");
        }
        int before = values.free;
        fault = tryEquation(s, t);
        if (fault != NO_FAULT) {
            throw new IllegalStateException("there would be no solution");
        }
        return before - values.free;
    }

    public int why() {
        return fault;
    }

    public int undo(int n) throws IllegalArgumentException {
        if (n < 0 || n > equations.kept) {
            throw new IllegalArgumentException("there are not so many equations");
        }
        equations.kept -= n;
        values.settle(equations.keptRow());
        return equations.kept;
    }

    public int count(int what) throws IllegalArgumentException {
        switch (what) {
            case NODES:
                return nodes.made;
            case EQUATIONS:
                return equations.kept;
            case FREE_VARIABLES:
                return values.free;
            default:
                throw new IllegalArgumentException("nothing is counted under this number");
        }
    }

    public boolean same(int s, int t) throws IllegalArgumentException {
        needNode(s);
        needNode(t);
        return values.valueOf[s] == values.valueOf[t];
    }

    public int leader(int s) throws IllegalArgumentException {
        needNode(s);
        return values.leader[values.valueOf[s]];
    }

    public long size(int s) throws IllegalArgumentException {
        needNode(s);
        return values.size[values.valueOf[s]];
    }

    public int depth(int s) throws IllegalArgumentException {
        needNode(s);
        return values.depth[values.valueOf[s]];
    }

    public int variables(int s) throws IllegalArgumentException {
        needNode(s);
        return Long.bitCount(values.holds[values.valueOf[s]]);
    }

    public int at(int s, long i) throws IllegalArgumentException, IndexOutOfBoundsException {
        needNode(s);
        int value = values.valueOf[s];
        if (i < 0 || i >= values.size[value]) {
            throw new IndexOutOfBoundsException("the value is shorter");
        }
        return values.writtenAt(value, i);
    }

    public boolean matches(int s, int t) throws IllegalArgumentException {
        needNode(s);
        needNode(t);
        return pairs.canBecome(values.valueOf[s], values.valueOf[t]);
    }

    public long common(int s, int t) throws IllegalArgumentException {
        needNode(s);
        needNode(t);
        return pairs.sizeInCommon(values.valueOf[s], values.valueOf[t]);
    }

    private void needNode(int s) throws IllegalArgumentException {
        if (!nodes.has(s)) {
            throw new IllegalArgumentException("no such node");
        }
    }

    private void needNodeOrNone(int s) throws IllegalArgumentException {
        if (s != NONE) {
            needNode(s);
        }
    }

    private void needRoomForNode() throws IllegalStateException {
        if (nodes.areFull()) {
            throw new IllegalStateException("there are 40 nodes");
        }
    }

    private int makeNode(int kind, int a, int b) {
        int node = nodes.add(kind, a, b);
        values.settle(equations.keptRow());
        return node;
    }

    private int tryEquation(int s, int t) {
        // A clash is looked for to the end first: a loop is told only where there is no clash.
        if (!equations.join(s, t)) {
            return CLASH;
        }
        if (!values.settle(equations.triedRow())) {
            values.settle(equations.keptRow());
            return LOOP;
        }
        equations.kept++;
        return NO_FAULT;
    }

    /** The nodes as they were made. */
    private static final class Nodes {
        private final int[] kind;
        private final int[] first;
        private final int[] second;
        private int made;

        Nodes() {
            kind = new int[MOST_NODES];
            first = new int[MOST_NODES];
            second = new int[MOST_NODES];
            made = 0;
        }

        boolean has(int s) {
            return s >= 0 && s < made;
        }

        boolean areFull() {
            return made >= MOST_NODES;
        }

        boolean isVariable(int s) {
            return kind[s] == VARIABLE;
        }

        int add(int newKind, int a, int b) {
            int node = made;
            kind[node] = newKind;
            first[node] = a;
            second[node] = b;
            made++;
            return node;
        }
    }

    /**
     * Which nodes the equations make equal, and their arguments with them. There is a row after each
     * number of equations, so that taking equations away only goes back to an earlier row.
     */
    private static final class Equations {
        private final Nodes nodes;
        // A row names for each node the one that stands for its class: no variable, if the class has
        // another node. Nodes that are not made yet stand for themselves in every row that is kept.
        private final int[][] rows;
        private final int[] pairFirst;
        private final int[] pairSecond;
        private int pairCount;
        private int kept;

        Equations(Nodes ofNodes) {
            nodes = ofNodes;
            rows = new int[MOST_EQUATIONS + 1][MOST_NODES];
            pairFirst = new int[MOST_PAIRS];
            pairSecond = new int[MOST_PAIRS];
            pairCount = 0;
            kept = 0;
            for (int x = 0; x < MOST_NODES; x++) {
                rows[0][x] = x;
            }
        }

        boolean areFull() {
            return kept >= MOST_EQUATIONS;
        }

        int[] keptRow() {
            return rows[kept];
        }

        /** Only while the equations are not full. */
        int[] triedRow() {
            return rows[kept + 1];
        }

        /** Fills the tried row with one equation more than are kept; false: a clash. */
        boolean join(int s, int t) {
            int[] row = triedRow();
            System.arraycopy(keptRow(), 0, row, 0, MOST_NODES);
            pairCount = 0;
            addPair(s, t);
            for (int next = 0; next < pairCount && next < MOST_PAIRS; next++) {
                if (!joinClasses(row, row[pairFirst[next]], row[pairSecond[next]])) {
                    return false;
                }
            }
            return true;
        }

        private boolean joinClasses(int[] row, int p, int q) {
            if (p == q) {
                return true;
            }
            if (nodes.isVariable(p)) {
                moveClass(row, p, q);
                return true;
            }
            if (nodes.isVariable(q)) {
                moveClass(row, q, p);
                return true;
            }
            if (nodes.kind[p] != nodes.kind[q]) {
                return false;
            }
            moveClass(row, q, p);
            addPair(nodes.first[p], nodes.first[q]);
            addPair(nodes.second[p], nodes.second[q]);
            return true;
        }

        private void moveClass(int[] row, int from, int to) {
            for (int x = 0; x < nodes.made; x++) {
                if (row[x] == from) {
                    row[x] = to;
                }
            }
        }

        private void addPair(int s, int t) {
            if (nodes.has(s) && nodes.has(t) && pairCount < MOST_PAIRS) {
                pairFirst[pairCount] = s;
                pairSecond[pairCount] = t;
                pairCount++;
            }
        }
    }

    /**
     * The different values of the nodes, each kept once. A value is numbered after its arguments, so
     * that going down by number meets every whole before its parts.
     */
    private static final class Values {
        private final Nodes nodes;
        private final int[] valueOf;
        private final int[] kind;
        private final int[] first;
        private final int[] second;
        private final int[] depth;
        private final int[] leader;
        private final long[] size;
        // The variables in a value, a bit for the number of each as a value.
        private final long[] holds;
        private int made;
        private int free;

        Values(Nodes ofNodes) {
            nodes = ofNodes;
            valueOf = new int[MOST_NODES];
            kind = new int[MOST_NODES];
            first = new int[MOST_NODES];
            second = new int[MOST_NODES];
            depth = new int[MOST_NODES];
            leader = new int[MOST_NODES];
            size = new long[MOST_NODES];
            holds = new long[MOST_NODES];
            made = 0;
            free = 0;
        }

        /** Finds all values anew from a row of classes; false: a loop, and the values are of no use. */
        boolean settle(int[] row) {
            Arrays.fill(valueOf, NONE);
            made = 0;
            free = 0;
            int open = countClasses(row);
            // Each round settles a class at least, if there is no loop.
            for (int round = 0; round < MOST_NODES && open > 0; round++) {
                int settled = settleRound(row);
                if (settled == 0) {
                    return false;
                }
                open -= settled;
            }
            findLeaders(row);
            return true;
        }

        private int countClasses(int[] row) {
            int classes = 0;
            for (int x = 0; x < nodes.made; x++) {
                if (row[x] == x) {
                    classes++;
                }
            }
            return classes;
        }

        private int settleRound(int[] row) {
            int settled = 0;
            for (int x = 0; x < nodes.made; x++) {
                if (row[x] == x && valueOf[x] == NONE && hasSettledArguments(row, x)) {
                    valueOf[x] = nodes.isVariable(x) ? addVariable() : valueLike(row, x);
                    settled++;
                }
            }
            return settled;
        }

        private boolean hasSettledArguments(int[] row, int x) {
            int a = nodes.first[x];
            int b = nodes.second[x];
            return (a == NONE || valueUnder(row, a) != NONE) && (b == NONE || valueUnder(row, b) != NONE);
        }

        private int valueUnder(int[] row, int argument) {
            return argument == NONE ? NONE : valueOf[row[argument]];
        }

        private int valueLike(int[] row, int x) {
            int a = valueUnder(row, nodes.first[x]);
            int b = valueUnder(row, nodes.second[x]);
            for (int v = 0; v < made; v++) {
                if (kind[v] == nodes.kind[x] && first[v] == a && second[v] == b) {
                    return v;
                }
            }
            return addValue(nodes.kind[x], a, b);
        }

        private int addVariable() {
            int v = addValue(VARIABLE, NONE, NONE);
            holds[v] = 1L << v;
            free++;
            return v;
        }

        private int addValue(int newKind, int a, int b) {
            int v = made;
            kind[v] = newKind;
            first[v] = a;
            second[v] = b;
            size[v] = 1 + sizeOrNone(a) + sizeOrNone(b);
            depth[v] = 1 + Math.max(depthOrNone(a), depthOrNone(b));
            holds[v] = holdsOrNone(a) | holdsOrNone(b);
            leader[v] = NONE;
            made++;
            return v;
        }

        private long sizeOrNone(int v) {
            return v == NONE ? 0 : size[v];
        }

        private int depthOrNone(int v) {
            return v == NONE ? 0 : depth[v];
        }

        private long holdsOrNone(int v) {
            return v == NONE ? 0 : holds[v];
        }

        private void findLeaders(int[] row) {
            for (int x = 0; x < nodes.made; x++) {
                int v = valueOf[row[x]];
                valueOf[x] = v;
                if (leader[v] == NONE) {
                    leader[v] = x;
                }
            }
        }

        /** Only for i from 0 and below the size of v: then the way down ends before the arguments do. */
        int writtenAt(int v, long i) {
            int part = v;
            long rest = i;
            for (int level = 0; level < MOST_NODES && rest > 0; level++) {
                rest--;
                long sizeOfFirst = sizeOrNone(first[part]);
                if (rest < sizeOfFirst) {
                    part = first[part];
                } else {
                    rest -= sizeOfFirst;
                    part = second[part];
                }
            }
            // Only variables have the value of a free variable, so the leader is the least of them.
            return kind[part] == VARIABLE ? -1 - leader[part] : kind[part];
        }
    }

    /** Goes down two values side by side, looking at each pair of their parts only once. */
    private static final class Pairs {
        private final Values values;
        // A bit for each value that is met beside this one.
        private final long[] beside;
        // How often a pair is met; of meaning only where the bit of the pair is set.
        private final long[][] times;

        Pairs(Values ofValues) {
            values = ofValues;
            beside = new long[MOST_NODES];
            times = new long[MOST_NODES][MOST_NODES];
        }

        boolean canBecome(int s, int t) {
            Arrays.fill(beside, 0L);
            meet(s, t, 1);
            for (int a = s; a >= 0; a--) {
                if (!fitsAllBeside(a)) {
                    return false;
                }
            }
            return true;
        }

        private boolean fitsAllBeside(int a) {
            if (values.kind[a] == VARIABLE) {
                return Long.bitCount(beside[a]) <= 1;
            }
            for (int b = 0; b < values.made; b++) {
                if (isMet(a, b)) {
                    if (values.kind[a] != values.kind[b]) {
                        return false;
                    }
                    meetArguments(a, b);
                }
            }
            return true;
        }

        long sizeInCommon(int s, int t) {
            Arrays.fill(beside, 0L);
            meet(s, t, 1);
            long total = 0;
            for (int a = s; a >= 0; a--) {
                total += partsInCommon(a);
            }
            return total;
        }

        private long partsInCommon(int a) {
            long total = 0;
            for (int b = 0; b < values.made; b++) {
                if (isMet(a, b)) {
                    total += times[a][b];
                    if (values.kind[a] == values.kind[b]) {
                        meetArguments(a, b);
                    }
                }
            }
            return total;
        }

        private boolean isMet(int a, int b) {
            return (beside[a] >> b & 1L) == 1L;
        }

        private void meetArguments(int a, int b) {
            meet(values.first[a], values.first[b], times[a][b]);
            meet(values.second[a], values.second[b], times[a][b]);
        }

        private void meet(int a, int b, long moreTimes) {
            if (a == NONE || b == NONE) {
                return;
            }
            if (isMet(a, b)) {
                times[a][b] += moreTimes;
            } else {
                beside[a] |= 1L << b;
                times[a][b] = moreTimes;
            }
        }
    }
}
