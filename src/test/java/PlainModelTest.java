import java.util.ArrayList;
import java.util.HashMap;
import java.util.List;
import java.util.Map;
import java.util.Random;
import java.util.TreeSet;

/**
 * Runs of calls from a fixed seed, each answer beside that of a plain model that writes every term
 * out, puts terms for variables one equation after another, and shares no idea with the program.
 */
public final class PlainModelTest {
    private static final int RUNS = 4000;
    private static final int CALLS = 110;
    private static final int MOST_CALLS = 512;
    private static final int LONGEST = 3000;

    private static int wrong = 0;

    public static void main(String[] args) {
        int[] seen = new int[4];
        for (int run = 0; run < RUNS && wrong < 20; run++) {
            new Run(run, seen).go();
        }
        for (int fault = 0; fault < 4; fault++) {
            if (seen[fault] < 500) {
                wrong++;
                System.out.println("the runs met why() = " + fault + " only " + seen[fault] + " times");
            }
        }
        System.out.println(wrong == 0 ? "all answers are those of the model" : wrong + " answers are wrong");
        if (wrong != 0) {
            System.exit(1);
        }
    }

    /** A term written out; a variable has the kind -1 and its number. */
    private record Tree(int kind, int number, List<Tree> parts) {
        boolean isVariable() {
            return kind == -1;
        }

        void write(List<Integer> into) {
            into.add(isVariable() ? -1 - number : kind);
            for (Tree part : parts) {
                part.write(into);
            }
        }

        int deep() {
            int most = 0;
            for (Tree part : parts) {
                most = Math.max(most, part.deep());
            }
            return 1 + most;
        }

        boolean has(int variable) {
            if (isVariable()) {
                return number == variable;
            }
            for (Tree part : parts) {
                if (part.has(variable)) {
                    return true;
                }
            }
            return false;
        }

        Tree put(int variable, Tree tree) {
            if (isVariable()) {
                return number == variable ? tree : this;
            }
            List<Tree> changed = new ArrayList<>();
            for (Tree part : parts) {
                changed.add(part.put(variable, tree));
            }
            return new Tree(kind, number, changed);
        }

        boolean becomes(Tree other, Map<Integer, Tree> puts) {
            if (isVariable()) {
                Tree before = puts.putIfAbsent(number, other);
                return before == null || before.equals(other);
            }
            if (kind != other.kind) {
                return false;
            }
            for (int i = 0; i < parts.size(); i++) {
                if (!parts.get(i).becomes(other.parts.get(i), puts)) {
                    return false;
                }
            }
            return true;
        }

        long shares(Tree other) {
            long total = 1;
            if (!isVariable() && kind == other.kind) {
                for (int i = 0; i < parts.size(); i++) {
                    total += parts.get(i).shares(other.parts.get(i));
                }
            }
            return total;
        }
    }

    private static final class Model {
        final List<int[]> nodes = new ArrayList<>();
        final List<int[]> equations = new ArrayList<>();
        List<Tree> values = new ArrayList<>();
        int why = 0;

        Tree tree(int node) {
            int[] made = nodes.get(node);
            List<Tree> parts = new ArrayList<>();
            for (int i = 1; i < made.length; i++) {
                parts.add(tree(made[i]));
            }
            return new Tree(made[0], made[0] == -1 ? node : 0, parts);
        }

        /** The value of each node; null: there is none. */
        List<Tree> solve(List<int[]> pairs) {
            List<Tree> all = new ArrayList<>();
            for (int node = 0; node < nodes.size(); node++) {
                all.add(tree(node));
            }
            for (int[] pair : pairs) {
                for (int[] change = {1}; change[0] == 1; ) {
                    Tree[] put = firstDifference(all.get(pair[0]), all.get(pair[1]));
                    change[0] = put == null ? 0 : 1;
                    if (put != null) {
                        if (put[0] == null) {
                            return null;
                        }
                        for (int node = 0; node < all.size(); node++) {
                            all.set(node, all.get(node).put(put[0].number, put[1]));
                        }
                    }
                }
            }
            return all;
        }

        /** null: none; a variable and what to put for it; or an empty pair where nothing helps. */
        private static Tree[] firstDifference(Tree s, Tree t) {
            if (s.isVariable() && t.isVariable()) {
                return s.number == t.number ? null : s.number > t.number ? new Tree[] {s, t} : new Tree[] {t, s};
            }
            if (s.isVariable()) {
                return t.has(s.number) ? new Tree[2] : new Tree[] {s, t};
            }
            if (t.isVariable()) {
                return firstDifference(t, s);
            }
            if (s.kind != t.kind) {
                return new Tree[2];
            }
            for (int i = 0; i < s.parts.size(); i++) {
                Tree[] found = firstDifference(s.parts.get(i), t.parts.get(i));
                if (found != null) {
                    return found;
                }
            }
            return null;
        }

        /** From equal nodes to their arguments again and again, over a table of all pairs. */
        boolean clashes(List<int[]> pairs) {
            int count = nodes.size();
            boolean[][] equal = new boolean[count][count];
            for (int i = 0; i < count; i++) {
                equal[i][i] = true;
            }
            for (int[] pair : pairs) {
                equal[pair[0]][pair[1]] = true;
                equal[pair[1]][pair[0]] = true;
            }
            boolean more = true;
            while (more) {
                more = false;
                for (int i = 0; i < count; i++) {
                    for (int j = 0; j < count; j++) {
                        for (int k = 0; k < count && equal[i][j]; k++) {
                            if (equal[j][k] && !equal[i][k]) {
                                equal[i][k] = true;
                                more = true;
                            }
                        }
                        if (equal[i][j] && nodes.get(i)[0] >= 0 && nodes.get(j)[0] >= 0) {
                            if (nodes.get(i)[0] != nodes.get(j)[0]) {
                                return true;
                            }
                            for (int p = 1; p < nodes.get(i).length; p++) {
                                int a = nodes.get(i)[p];
                                int b = nodes.get(j)[p];
                                more |= !equal[a][b];
                                equal[a][b] = true;
                            }
                        }
                    }
                }
            }
            return false;
        }

        int free() {
            TreeSet<Integer> found = new TreeSet<>();
            for (int node = 0; node < nodes.size(); node++) {
                if (nodes.get(node)[0] == -1 && values.get(node).isVariable()) {
                    found.add(values.get(node).number);
                }
            }
            return found.size();
        }

        boolean has(int node) {
            return node >= 0 && node < nodes.size();
        }

        String unify(int s, int t) {
            if (!has(s) || !has(t)) {
                why = 3;
                return "IllegalArgumentException";
            }
            why = 0;
            if (equations.size() == 20) {
                return "IllegalStateException";
            }
            List<int[]> more = new ArrayList<>(equations);
            more.add(new int[] {s, t});
            List<Tree> then = solve(more);
            if (then == null) {
                why = clashes(more) ? 1 : 2;
                return "IllegalStateException";
            }
            int before = free();
            equations.add(new int[] {s, t});
            values = then;
            return String.valueOf(before - free());
        }

        int leader(int s) {
            return values.indexOf(values.get(s));
        }

        List<Integer> written(int s) {
            List<Integer> text = new ArrayList<>();
            values.get(s).write(text);
            return text;
        }

        int variables(int s) {
            TreeSet<Integer> found = new TreeSet<>();
            for (int code : written(s)) {
                if (code < 0) {
                    found.add(code);
                }
            }
            return found.size();
        }
    }

    private interface Call {
        Object answer();
    }

    private static final class Run {
        private final int number;
        private final Random random;
        private final int[] seen;
        private final int symbols;
        private final int mostNodes;
        private final List<Call> changes = new ArrayList<>();
        private final Model model = new Model();
        private TermWeaver x = new TermWeaver();
        private int used = 0;

        Run(int runNumber, int[] seenFaults) {
            number = runNumber;
            random = new Random(runNumber);
            seen = seenFaults;
            symbols = 1 + random.nextInt(3);
            mostNodes = 4 + random.nextInt(12);
        }

        void go() {
            for (int call = 0; call < CALLS; call++) {
                if (model.nodes.size() < 3 || random.nextInt(5) == 0 && model.nodes.size() < mostNodes) {
                    make();
                } else if (random.nextInt(3) == 0) {
                    equate();
                } else if (random.nextInt(9) == 0) {
                    takeBack();
                } else {
                    ask();
                }
            }
            lookAtAll();
        }

        private String answered(Call asked) {
            used++;
            try {
                return String.valueOf(asked.answer());
            } catch (RuntimeException e) {
                return e.getClass().getSimpleName();
            }
        }

        /** Nothing is promised of an object after so many calls: a new one is brought to the same state. */
        private void takeNewObjectInTime() {
            if (used < MOST_CALLS) {
                return;
            }
            x = new TermWeaver();
            used = 0;
            for (Call change : changes) {
                answered(change);
            }
        }

        private void change(String call, Call asked, Object want) {
            due(call, asked, want);
            changes.add(asked);
        }

        private void due(String call, Call asked, Object want) {
            takeNewObjectInTime();
            String got = answered(asked);
            if (!got.equals(String.valueOf(want))) {
                wrong++;
                System.out.println("run " + number + ": " + call + " answered " + got + ", due is " + want);
            }
        }

        private int anyNode() {
            return random.nextInt(model.nodes.size());
        }

        private void make() {
            int count = model.nodes.size();
            int kind = count == 0 ? -1 : random.nextInt(5);
            int symbol = random.nextInt(symbols);
            if (kind <= 1) {
                model.nodes.add(new int[] {-1});
                change("variable()", () -> x.variable(), count);
            } else if (kind == 2 && random.nextBoolean()) {
                model.nodes.add(new int[] {3 * symbol});
                change("term of none", () -> x.term(symbol, -1, -1), count);
            } else if (kind <= 3) {
                int a = anyNode();
                model.nodes.add(new int[] {3 * symbol + 1, a});
                change("term of one", () -> x.term(symbol, a, -1), count);
            } else {
                int a = anyNode();
                int b = anyNode();
                model.nodes.add(new int[] {3 * symbol + 2, a, b});
                change("term of two", () -> x.term(symbol, a, b), count);
            }
            model.values = model.solve(model.equations);
        }

        private boolean isLong() {
            for (int node = 0; node < model.nodes.size(); node++) {
                if (model.written(node).size() > LONGEST) {
                    return true;
                }
            }
            return false;
        }

        private void equate() {
            if (isLong()) {
                takeBack();
                return;
            }
            int s = random.nextInt(15) == 0 ? model.nodes.size() : anyNode();
            int t = anyNode();
            String want = model.unify(s, t);
            seen[model.why]++;
            change("unify(" + s + ", " + t + ")", () -> x.unify(s, t), want);
            due("why()", () -> x.why(), model.why);
        }

        private void takeBack() {
            int count = model.equations.size();
            int n = random.nextInt(count + 2);
            if (n <= count) {
                model.equations.subList(count - n, count).clear();
                model.values = model.solve(model.equations);
            }
            change("undo(" + n + ")", () -> x.undo(n), n > count ? "IllegalArgumentException" : count - n);
            due("why()", () -> x.why(), model.why);
        }

        private void ask() {
            int s = anyNode();
            int t = anyNode();
            Tree left = model.values.get(s);
            Tree right = model.values.get(t);
            String of = "(" + s + ", " + t + ")";
            due("count(0)", () -> x.count(0), model.nodes.size());
            due("count(1)", () -> x.count(1), model.equations.size());
            due("count(2)", () -> x.count(2), model.free());
            due("same" + of, () -> x.same(s, t), left.equals(right));
            due("matches" + of, () -> x.matches(s, t), left.becomes(right, new HashMap<>()));
            due("common" + of, () -> x.common(s, t), left.shares(right));
        }

        private void lookAtAll() {
            for (int node = 0; node < model.nodes.size(); node++) {
                int s = node;
                List<Integer> text = model.written(s);
                due("leader(" + s + ")", () -> x.leader(s), model.leader(s));
                due("size(" + s + ")", () -> x.size(s), text.size());
                due("depth(" + s + ")", () -> x.depth(s), model.values.get(s).deep());
                due("variables(" + s + ")", () -> x.variables(s), model.variables(s));
                for (int place = 0; place < text.size(); place++) {
                    int i = place;
                    due("at(" + s + ", " + i + ")", () -> x.at(s, i), text.get(i));
                }
                due("at beyond", () -> x.at(s, text.size()), "IndexOutOfBoundsException");
            }
        }
    }
}
