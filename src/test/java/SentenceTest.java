import java.util.ArrayList;
import java.util.HashMap;
import java.util.HashSet;
import java.util.List;
import java.util.Map;
import java.util.Random;
import java.util.Set;

/**
 * The document's sentences, from its first line on, that no single answer can show: what the answers
 * of many calls must be beside one another, in runs from fixed seeds, without a model of the equations.
 */
public final class SentenceTest {
    private static final int MOST_NODES = 40;
    private static final int MOST_EQUATIONS = 20;
    private static final int MOST_CALLS = 512;
    private static final int SHORT_RUNS = 700;
    private static final int LONG_RUNS = 120;
    private static final int LONGEST = 300;
    private static final int MOST_FAULTS = 20;
    private static final long LONGEST_WAIT = 120_000;

    private static final String SHARED = "Keeps terms that share their parts";
    private static final String MADE_EQUAL = "makes pairs of them equal by putting terms for variables";
    private static final String TAKEN_BACK = "takes that back";
    private static final String NOT_WRITTEN = "tells what each term is then, without ever writing it out";
    private static final String TERMS = "TERMS: the term of a variable is a variable;"
        + " that of another node is its symbol with the terms of its arguments";
    private static final String SOLUTION = "A SOLUTION puts a finite term for every variable so that, in each"
        + " equation, both nodes' terms become the same";
    private static final String ALWAYS = "The equations that are kept always have a solution";
    private static final String MOST_GENERAL = "the MOST GENERAL one, from which all others come by putting"
        + " terms for the variables that are left in it";
    private static final String VALUE = "THE VALUE of a node is what its term becomes by it:"
        + " a finite term with some variables left";
    private static final String LEAST = "of variables that become the same variable, the one with the least"
        + " number stands for all";
    private static final String FREE = "A variable is FREE if its value is a variable, else BOUND";
    private static final String UNIFY = "4: by how many count(2) is less then";
    private static final String REFUSED = "4: illegal state, changing nothing but why(): there would be no solution";
    private static final String MATCHES = "14: Whether terms can be put for the variables in the value of s"
        + " so that it becomes the value of t";
    private static final String COMMON = "15: the least general term from which the values of s and t both"
        + " come by putting terms for its variables";

    private static final Set<String> shown = new HashSet<>();
    private static int wrong = 0;

    public static void main(String[] args) throws InterruptedException {
        // What wrote its terms out would hardly ever end.
        Thread all = new Thread(SentenceTest::allTests);
        all.setDaemon(true);
        all.start();
        all.join(LONGEST_WAIT);
        if (all.isAlive()) {
            wrong++;
            System.out.println("the calls do not end in time");
        }
        System.out.println(wrong == 0 ? "all sentences hold" : wrong + " sentences do not hold");
        System.exit(wrong == 0 ? 0 : 1);
    }

    private static void allTests() {
        try {
            sharedParts();
            madeEqualAndTakenBack();
            for (int seed = 0; seed < SHORT_RUNS && wrong < MOST_FAULTS; seed++) {
                new ShortRun(seed).go();
            }
            for (int seed = 0; seed < LONG_RUNS && wrong < MOST_FAULTS; seed++) {
                new LongRun(seed).go();
            }
            towers();
            for (String sentence : List.of(SHARED, MADE_EQUAL, TAKEN_BACK, NOT_WRITTEN, TERMS, SOLUTION, ALWAYS,
                MOST_GENERAL, VALUE, LEAST, FREE, UNIFY, REFUSED, MATCHES, COMMON)) {
                holds(sentence, "no run came to it", shown.contains(sentence));
            }
        } catch (RuntimeException e) {
            wrong++;
            System.out.println("a call that must be answered threw " + e);
        }
    }

    private static void holds(String sentence, String where, boolean so) {
        shown.add(sentence);
        if (!so) {
            wrong++;
            System.out.println(sentence + "\n  does not hold: " + where);
        }
    }

    private interface Call {
        long on(TermWeaver x);
    }

    /** An object, and the calls that changed it, so that a new one takes its place after 512 calls. */
    private static class Weaver {
        // Of each node its kind, as at() tells it, or -1, and then its arguments.
        final List<int[]> nodes = new ArrayList<>();
        final List<int[]> equations = new ArrayList<>();
        private final List<Call> changes = new ArrayList<>();
        private TermWeaver x = new TermWeaver();
        private int used = 0;

        long ask(Call call) {
            if (used == MOST_CALLS) {
                makeAgain();
            }
            used++;
            return call.on(x);
        }

        private long change(Call call) {
            if (used == MOST_CALLS) {
                makeAgain();
            }
            used++;
            changes.add(call);
            return call.on(x);
        }

        private void makeAgain() {
            x = new TermWeaver();
            used = changes.size();
            for (Call change : changes) {
                try {
                    change.on(x);
                } catch (IllegalStateException e) {
                    // It was refused the first time too.
                    continue;
                }
            }
        }

        Weaver copy() {
            Weaver other = new Weaver();
            other.nodes.addAll(nodes);
            other.equations.addAll(equations);
            other.changes.addAll(changes);
            other.makeAgain();
            return other;
        }

        int variable() {
            nodes.add(new int[] {-1});
            return (int) change(x -> x.variable());
        }

        int term(int symbol, int... arguments) {
            int[] made = new int[1 + arguments.length];
            made[0] = 3 * symbol + arguments.length;
            System.arraycopy(arguments, 0, made, 1, arguments.length);
            nodes.add(made);
            int a = arguments.length > 0 ? arguments[0] : -1;
            int b = arguments.length > 1 ? arguments[1] : -1;
            return (int) change(x -> x.term(symbol, a, b));
        }

        /** By how many free variables there are fewer; -1: it was refused. */
        int unify(int s, int t) {
            try {
                int fewer = (int) change(x -> x.unify(s, t));
                equations.add(new int[] {s, t});
                return fewer;
            } catch (IllegalStateException e) {
                return -1;
            }
        }

        void undo(int n) {
            change(x -> x.undo(n));
            equations.subList(equations.size() - n, equations.size()).clear();
        }

        boolean isVariable(int s) {
            return nodes.get(s)[0] == -1;
        }

        long count(int what) {
            return ask(x -> x.count(what));
        }

        boolean same(int s, int t) {
            return ask(x -> x.same(s, t) ? 1 : 0) == 1;
        }

        boolean matches(int s, int t) {
            return ask(x -> x.matches(s, t) ? 1 : 0) == 1;
        }

        long common(int s, int t) {
            return ask(x -> x.common(s, t));
        }

        long size(int s) {
            return ask(x -> x.size(s));
        }

        long depth(int s) {
            return ask(x -> x.depth(s));
        }

        int at(int s, long i) {
            return (int) ask(x -> x.at(s, i));
        }

        /** The value of a node that is not long, as at() tells it. */
        List<Integer> written(int s) {
            List<Integer> text = new ArrayList<>();
            long size = size(s);
            for (long i = 0; i < size; i++) {
                text.add(at(s, i));
            }
            return text;
        }

        List<List<Integer>> allWritten() {
            List<List<Integer>> all = new ArrayList<>();
            for (int s = 0; s < nodes.size(); s++) {
                all.add(written(s));
            }
            return all;
        }

        boolean isAnyLong() {
            for (int s = 0; s < nodes.size(); s++) {
                if (size(s) > LONGEST) {
                    return true;
                }
            }
            return false;
        }
    }

    /** Where the part that begins at a place ends; one too far, if it does not end. */
    private static int endOf(List<Integer> text, int from) {
        int open = 1;
        int place = from;
        while (open > 0 && place < text.size()) {
            int code = text.get(place);
            open += (code < 0 ? 0 : code % 3) - 1;
            place++;
        }
        return open == 0 ? place : text.size() + 1;
    }

    private static boolean comesFrom(List<Integer> special, List<Integer> general, Map<Integer, List<Integer>> puts) {
        int place = 0;
        for (int code : general) {
            if (place >= special.size()) {
                return false;
            }
            if (code >= 0) {
                if (special.get(place) != code) {
                    return false;
                }
                place++;
                continue;
            }
            List<Integer> part = special.subList(place, endOf(special, place));
            if (!puts.computeIfAbsent(code, none -> part).equals(part)) {
                return false;
            }
            place += part.size();
        }
        return place == special.size();
    }

    /** Whether the same terms put for the variables turn all of these into all of those. */
    private static boolean allComeFrom(List<List<Integer>> special, List<List<Integer>> general) {
        Map<Integer, List<Integer>> puts = new HashMap<>();
        for (int s = 0; s < general.size(); s++) {
            if (!comesFrom(special.get(s), general.get(s), puts)) {
                return false;
            }
        }
        return true;
    }

    // ---- The first sentence ----

    /** One term stands in many others: what it becomes is seen in all of them, wherever it stands. */
    private static void sharedParts() {
        Weaver x = new Weaver();
        int a = x.variable();
        int part = x.term(1, a);
        int twice = x.term(2, part, part);
        int other = x.term(3, twice, a);
        int k = x.term(4);
        holds(SHARED, "before", x.written(other).equals(List.of(11, 8, 4, -1, 4, -1, -1)));
        x.unify(a, k);
        holds(SHARED, "the part itself", x.written(part).equals(List.of(4, 12)));
        holds(SHARED, "where it stands twice", x.written(twice).equals(List.of(8, 4, 12, 4, 12)));
        holds(SHARED, "above that", x.written(other).equals(List.of(11, 8, 4, 12, 4, 12, 12)));
        holds(SHARED, "no node more", x.count(0) == 5);
    }

    private static void madeEqualAndTakenBack() {
        Weaver x = new Weaver();
        int a = x.variable();
        int b = x.variable();
        int k = x.term(4);
        int left = x.term(2, a, k);
        int right = x.term(2, x.term(5, k), b);
        List<List<Integer>> before = x.allWritten();
        holds(MADE_EQUAL, "not yet", !x.same(left, right));
        x.unify(left, right);
        holds(MADE_EQUAL, "the pair", x.same(left, right) && x.written(left).equals(List.of(8, 16, 12, 12)));
        holds(MADE_EQUAL, "the variables", x.written(a).equals(List.of(16, 12)) && x.written(b).equals(List.of(12)));
        x.undo(1);
        holds(TAKEN_BACK, "the pair", !x.same(left, right));
        holds(TAKEN_BACK, "all values", x.allWritten().equals(before));
    }

    // ---- Runs with values that can be written out ----

    private static final class ShortRun {
        private final int seed;
        private final Random random;
        private final int symbols;
        private final int mostNodes;
        private final Weaver x = new Weaver();

        ShortRun(int runSeed) {
            seed = runSeed;
            random = new Random(runSeed);
            symbols = 1 + random.nextInt(3);
            mostNodes = 5 + random.nextInt(8);
        }

        void go() {
            for (int step = 0; step < 40 && !x.isAnyLong(); step++) {
                if (x.nodes.size() < 4 || x.nodes.size() < mostNodes && random.nextInt(3) == 0) {
                    makeNode();
                } else if (random.nextInt(5) == 0) {
                    takeBack();
                } else {
                    equate();
                }
            }
            if (!x.isAnyLong()) {
                checkValues();
                checkVariablesLeft();
                checkMatches();
                checkCommon();
            }
        }

        private String where(String what) {
            return "run " + seed + ", " + what;
        }

        private int anyNode() {
            return random.nextInt(x.nodes.size());
        }

        private void makeNode() {
            List<List<Integer>> before = x.allWritten();
            int symbol = random.nextInt(symbols);
            int kind = x.nodes.isEmpty() ? 0 : random.nextInt(6);
            if (kind <= 1) {
                x.variable();
            } else if (kind == 2) {
                x.term(symbol);
            } else if (kind == 3) {
                x.term(symbol, anyNode());
            } else {
                x.term(symbol, anyNode(), anyNode());
            }
            if (!x.isAnyLong()) {
                List<List<Integer>> then = x.allWritten();
                holds(VALUE, where("a new node changes others"), then.subList(0, before.size()).equals(before));
                checkTerm(before.size(), then);
            }
        }

        private void takeBack() {
            x.undo(random.nextInt(x.equations.size() + 1));
            checkEquations();
        }

        private void equate() {
            if (x.equations.size() == MOST_EQUATIONS) {
                x.undo(1);
            }
            List<List<Integer>> before = x.allWritten();
            long free = x.count(2);
            int fewer = x.unify(anyNode(), anyNode());
            if (fewer >= 0) {
                holds(UNIFY, where("unify"), fewer == free - x.count(2));
            } else {
                holds(REFUSED, where("unify"), x.allWritten().equals(before) && x.count(2) == free);
            }
            checkEquations();
            if (x.isAnyLong()) {
                x.undo(1);
                holds(TAKEN_BACK, where("undo"), x.allWritten().equals(before));
            } else {
                // With one equation more the solutions are solutions of the earlier equations too.
                holds(MOST_GENERAL, where("unify"), allComeFrom(x.allWritten(), before));
            }
        }

        private void checkEquations() {
            for (int[] equation : x.equations) {
                holds(SOLUTION, where("an equation is kept, and its nodes differ"), x.same(equation[0], equation[1]));
            }
            holds(ALWAYS, where("count(1)"), x.count(1) == x.equations.size());
        }

        private void checkValues() {
            List<List<Integer>> all = x.allWritten();
            for (int s = 0; s < all.size(); s++) {
                holds(VALUE, where("node " + s + " is not one term"), endOf(all.get(s), 0) == all.get(s).size());
                if (x.isVariable(s)) {
                    checkVariable(s, all);
                } else {
                    checkTerm(s, all);
                }
            }
            for (int[] equation : x.equations) {
                holds(SOLUTION, where("an equation's values"), all.get(equation[0]).equals(all.get(equation[1])));
            }
            checkCountOfFree(all);
        }

        /** What a term becomes is its symbol with what its arguments become. */
        private void checkTerm(int s, List<List<Integer>> all) {
            int[] made = x.nodes.get(s);
            List<Integer> due = new ArrayList<>();
            due.add(made[0] == -1 ? -1 - s : made[0]);
            for (int i = 1; i < made.length; i++) {
                due.addAll(all.get(made[i]));
            }
            holds(TERMS, where("node " + s), all.get(s).equals(due));
        }

        private void checkVariable(int s, List<List<Integer>> all) {
            int code = all.get(s).get(0);
            if (code < 0) {
                int least = s;
                for (int t = s; t >= 0; t--) {
                    least = x.isVariable(t) && all.get(t).equals(all.get(s)) ? t : least;
                }
                holds(LEAST, where("variable " + s), code == -1 - least && all.get(s).size() == 1);
                return;
            }
            // The most general solution puts nothing that is not the term of a node already.
            boolean isBoundToNode = false;
            for (int t = 0; t < all.size(); t++) {
                isBoundToNode |= !x.isVariable(t) && all.get(t).equals(all.get(s));
            }
            holds(MOST_GENERAL, where("variable " + s + " is bound to no node"), isBoundToNode);
        }

        private void checkCountOfFree(List<List<Integer>> all) {
            int standing = 0;
            for (int s = 0; s < all.size(); s++) {
                standing += x.isVariable(s) && all.get(s).get(0) == -1 - s ? 1 : 0;
                for (int code : all.get(s)) {
                    holds(FREE, where("a variable that does not stand for itself is left"),
                        code >= 0 || all.get(-1 - code).equals(List.of(code)));
                }
            }
            holds(FREE, where("count(2)"), x.count(2) == standing);
        }

        /** Any terms can be put for the variables that are left: a new one for each, and all of them at once. */
        private void checkVariablesLeft() {
            Weaver y = x.copy();
            List<List<Integer>> before = x.allWritten();
            for (int s = 0; s < before.size() && y.equations.size() < MOST_EQUATIONS; s++) {
                if (before.get(s).equals(List.of(-1 - s))) {
                    int put = y.term(9, y.term(s % 9));
                    holds(MOST_GENERAL, where("variable " + s + " is left"), y.unify(s, put) == 1);
                    holds(MOST_GENERAL, where("what is put for variable " + s), y.same(s, put));
                }
            }
            if (!y.isAnyLong()) {
                List<List<Integer>> then = y.allWritten().subList(0, before.size());
                holds(MOST_GENERAL, where("all variables that are left"), allComeFrom(then, before));
            }
        }

        private void checkMatches() {
            List<List<Integer>> all = x.allWritten();
            for (int s = 0; s < all.size(); s++) {
                for (int t = 0; t < all.size(); t++) {
                    boolean due = comesFrom(all.get(t), all.get(s), new HashMap<>());
                    holds(MATCHES, where(s + " and " + t), x.matches(s, t) == due);
                }
            }
        }

        /** Makes the least general term itself for some pairs, and looks at it as at any other. */
        private void checkCommon() {
            for (int pair = 0; pair < 6; pair++) {
                int s = anyNode();
                int t = anyNode();
                Weaver y = x.copy();
                LeastGeneral least = new LeastGeneral(y, x.written(s), x.written(t));
                int g = least.make(0, 0);
                if (g < 0) {
                    continue;
                }
                holds(COMMON, where(s + " and " + t + " do not come from it"), y.matches(g, s) && y.matches(g, t));
                holds(COMMON, where("common of " + s + " and " + t), x.common(s, t) == y.size(g));
                holds(COMMON, where("common of " + t + " and " + s), x.common(t, s) == y.size(g));
                for (int c = 0; c < y.nodes.size(); c++) {
                    if (y.matches(c, s) && y.matches(c, t)) {
                        holds(COMMON, where(c + " is less general for " + s + " and " + t), y.matches(c, g));
                    }
                }
            }
        }
    }

    /** Makes the term that two written terms have in common: a new variable for each pair that differs. */
    private static final class LeastGeneral {
        private final Weaver y;
        private final List<Integer> left;
        private final List<Integer> right;
        private final Map<List<List<Integer>>, Integer> made = new HashMap<>();

        LeastGeneral(Weaver weaver, List<Integer> leftText, List<Integer> rightText) {
            y = weaver;
            left = leftText;
            right = rightText;
        }

        /** The node for the parts that begin at these places; -1: there is no room for it. */
        int make(int i, int j) {
            List<Integer> a = left.subList(i, endOf(left, i));
            List<Integer> b = right.subList(j, endOf(right, j));
            Integer before = made.get(List.of(a, b));
            if (before != null) {
                return before;
            }
            int node = isAlike(a, b) ? makeAlike(i, j) : room() ? y.variable() : -1;
            made.put(List.of(a, b), node);
            return node;
        }

        private boolean room() {
            return y.nodes.size() < MOST_NODES;
        }

        private static boolean isAlike(List<Integer> a, List<Integer> b) {
            return a.get(0) >= 0 && a.get(0).equals(b.get(0));
        }

        private int makeAlike(int i, int j) {
            int code = left.get(i);
            int[] arguments = new int[code % 3];
            int nextLeft = i + 1;
            int nextRight = j + 1;
            for (int n = 0; n < arguments.length; n++) {
                arguments[n] = make(nextLeft, nextRight);
                if (arguments[n] < 0) {
                    return -1;
                }
                nextLeft = endOf(left, nextLeft);
                nextRight = endOf(right, nextRight);
            }
            return room() ? y.term(code / 3, arguments) : -1;
        }
    }

    // ---- Runs with values that nobody could write out ----

    private static final class LongRun {
        private final int seed;
        private final Random random;
        private final Weaver x = new Weaver();

        LongRun(int runSeed) {
            seed = runSeed;
            random = new Random(runSeed);
        }

        void go() {
            int variables = 2 + random.nextInt(15);
            for (int i = 0; i < variables; i++) {
                x.variable();
            }
            while (x.nodes.size() < MOST_NODES) {
                int from = Math.max(0, x.nodes.size() - 2 - random.nextInt(20));
                int a = from + random.nextInt(x.nodes.size() - from);
                x.term(random.nextInt(2), a, random.nextBoolean() ? a : random.nextInt(x.nodes.size()));
            }
            for (int call = 0; call < 60 && x.equations.size() < MOST_EQUATIONS; call++) {
                int s = random.nextBoolean() ? random.nextInt(variables) : random.nextInt(MOST_NODES);
                x.unify(s, random.nextInt(MOST_NODES));
            }
            checkParts(x, "long run " + seed, random);
        }
    }

    /** Values too long to write: the place of each part in a whole tells whether the whole is right. */
    private static void checkParts(Weaver x, String where, Random random) {
        for (int[] equation : x.equations) {
            holds(SOLUTION, where + ": an equation is kept, and its nodes differ", x.same(equation[0], equation[1]));
        }
        for (int s = 0; s < x.nodes.size(); s++) {
            holds(VALUE, where + ": the end of " + s, !hasPlace(x, s, -1) && hasPlace(x, s, x.size(s) - 1)
                && !hasPlace(x, s, x.size(s)));
            if (!x.isVariable(s)) {
                checkPartsOf(x, s, where + ": node " + s, random);
            }
        }
    }

    private static boolean hasPlace(Weaver x, int s, long i) {
        try {
            x.at(s, i);
            return true;
        } catch (IndexOutOfBoundsException e) {
            return false;
        }
    }

    private static void checkPartsOf(Weaver x, int s, String where, Random random) {
        int[] made = x.nodes.get(s);
        long start = 1;
        long deepest = 0;
        boolean isRight = x.at(s, 0) == made[0];
        for (int i = 1; i < made.length; i++) {
            long size = x.size(made[i]);
            deepest = Math.max(deepest, x.depth(made[i]));
            for (int n = 0; n < 5; n++) {
                long place = n == 0 ? 0 : n == 1 ? size - 1 : Math.floorMod(random.nextLong(), size);
                isRight &= x.at(s, start + place) == x.at(made[i], place);
            }
            start += size;
        }
        holds(NOT_WRITTEN, where, isRight && x.size(s) == start && x.depth(s) == 1 + deepest);
    }

    /** Two towers on two variables, each node with the one before it twice; then they are made equal. */
    private static void towers() {
        Weaver x = new Weaver();
        x.variable();
        x.variable();
        for (int i = 2; i < MOST_NODES; i++) {
            x.term(1, i - 2, i - 2);
        }
        checkParts(x, "towers", new Random(1));
        checkPairs(x, false);
        holds(NOT_WRITTEN, "towers made equal", x.unify(38, 39) == 1 && x.same(0, 1));
        checkPairs(x, true);
        x.undo(1);
        holds(NOT_WRITTEN, "one tower on another", x.unify(0, 39) == 1 && x.size(38) == (1L << 39) - 1);
        checkParts(x, "one tower on another", new Random(2));
    }

    private static void checkPairs(Weaver x, boolean areEqual) {
        for (int s = 0; s < MOST_NODES; s++) {
            for (int t = 0; t < MOST_NODES; t++) {
                String where = "towers " + s + " and " + t + (areEqual ? " made equal" : "");
                boolean same = s == t || areEqual && s / 2 == t / 2;
                holds(NOT_WRITTEN, where, x.same(s, t) == same);
                holds(NOT_WRITTEN, where, x.matches(s, t) == (s / 2 <= t / 2));
                holds(NOT_WRITTEN, where, x.common(s, t) == (1L << Math.min(s / 2, t / 2) + 1) - 1);
            }
        }
    }
}
