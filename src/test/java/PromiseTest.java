import java.util.function.Supplier;

/** Each promise of the document by itself: ordinary inputs, the edges it names, and wrong inputs. */
public final class PromiseTest {
    private static final String ARGUMENT = "IllegalArgumentException";
    private static final String STATE = "IllegalStateException";
    private static final String BOUNDS = "IndexOutOfBoundsException";
    private static final int[] NO_NODES = {-1, -2, 40, 41, 63, 64, Integer.MIN_VALUE, Integer.MAX_VALUE};

    private static int wrong = 0;

    public static void main(String[] args) {
        aNewObject();
        variable();
        term();
        unify();
        unifyFinds();
        why();
        clashBeforeLoop();
        undo();
        undoWithLaterNodes();
        count();
        same();
        leader();
        size();
        depth();
        variables();
        at();
        matches();
        common();
        chainOfBoundVariables();
        longLists();
        twoTowers();
        objectsApart();
        System.out.println(wrong == 0 ? "all promises hold" : wrong + " answers are wrong");
        if (wrong != 0) {
            System.exit(1);
        }
    }

    private static void due(String call, Object got, Object want) {
        if (!want.equals(got)) {
            wrong++;
            System.out.println(call + " answered " + got + ", due is " + want);
        }
    }

    private static void dueThrow(String call, Supplier<Object> made, String want) {
        Object got;
        try {
            got = made.get();
        } catch (RuntimeException e) {
            got = e.getClass().getSimpleName();
        }
        due(call, got, want);
    }

    private static int constant(TermWeaver x, int symbol) {
        return x.term(symbol, -1, -1);
    }

    private static String written(TermWeaver x, int s) {
        StringBuilder text = new StringBuilder();
        for (long i = 0; i < x.size(s); i++) {
            text.append(i == 0 ? "" : " ").append(x.at(s, i));
        }
        return text.toString();
    }

    private static void aNewObject() {
        TermWeaver x = new TermWeaver();
        due("1: count(0)", x.count(0), 0);
        due("1: count(1)", x.count(1), 0);
        due("1: count(2)", x.count(2), 0);
        due("1: why()", x.why(), 0);
        due("1: undo(0)", x.undo(0), 0);
        dueThrow("1: size(0)", () -> x.size(0), ARGUMENT);
        dueThrow("1: unify(0, 0)", () -> x.unify(0, 0), ARGUMENT);
    }

    private static void variable() {
        TermWeaver x = new TermWeaver();
        for (int i = 0; i < 40; i++) {
            due("2: variable()", x.variable(), i);
            due("2: count(0)", x.count(0), i + 1);
            due("2: count(2)", x.count(2), i + 1);
        }
        dueThrow("2: variable() beyond 40", () -> x.variable(), STATE);
        due("2: count(0) after a throw", x.count(0), 40);
        due("2: count(2) after a throw", x.count(2), 40);
        due("2: same(0, 1)", x.same(0, 1), false);
        due("2: at(39, 0)", x.at(39, 0), -40);
    }

    private static void term() {
        TermWeaver x = new TermWeaver();
        dueThrow("3: a node of its own", () -> x.term(0, 0, -1), ARGUMENT);
        due("3: none", x.term(0, -1, -1), 0);
        due("3: one", x.term(9, 0, -1), 1);
        due("3: two", x.term(9, 1, 0), 2);
        due("3: like another", x.term(9, 1, 0), 3);
        due("3: written", written(x, 2), "29 28 0 0");
        for (int symbol : new int[] {-1, 10, 11, Integer.MIN_VALUE, Integer.MAX_VALUE}) {
            dueThrow("3: symbol " + symbol, () -> x.term(symbol, 0, 0), ARGUMENT);
        }
        dueThrow("3: a missing, b not", () -> x.term(1, -1, 0), ARGUMENT);
        for (int node : NO_NODES) {
            if (node != -1) {
                dueThrow("3: a " + node, () -> x.term(1, node, -1), ARGUMENT);
                dueThrow("3: a " + node + " of two", () -> x.term(1, node, 0), ARGUMENT);
                dueThrow("3: b " + node, () -> x.term(1, 0, node), ARGUMENT);
                dueThrow("3: b alone " + node, () -> x.term(1, -1, node), ARGUMENT);
            }
        }
        dueThrow("3: the next node", () -> x.term(1, 4, -1), ARGUMENT);
        due("3: count(0) after throws", x.count(0), 4);
        for (int i = 4; i < 40; i++) {
            due("3: term", x.term(5, i - 1, -1), i);
        }
        dueThrow("3: beyond 40", () -> x.term(0, -1, -1), STATE);
        dueThrow("3: beyond 40 with a wrong symbol", () -> x.term(10, -1, -1), ARGUMENT);
        dueThrow("3: beyond 40 with a wrong node", () -> x.term(0, 40, -1), ARGUMENT);
        due("3: count(0) at the end", x.count(0), 40);
        due("3: count(2) at the end", x.count(2), 0);
    }

    private static void unify() {
        TermWeaver x = new TermWeaver();
        int a = x.variable();
        int b = x.variable();
        int c = x.variable();
        int f = x.term(1, a, b);
        int g = x.term(1, b, c);
        int k = constant(x, 2);
        due("4: one node", x.unify(f, f), 0);
        due("4: count(1)", x.count(1), 1);
        due("4: arguments too", x.unify(f, g), 2);
        due("4: equal already", x.unify(a, c), 0);
        due("4: count(1) with equal ones", x.count(1), 3);
        due("4: bound", x.unify(k, b), 1);
        due("4: f is", written(x, f), "5 6 6");
        dueThrow("4: clash", () -> x.unify(f, k), STATE);
        due("4: count(1) after a clash", x.count(1), 4);
        for (int node : NO_NODES) {
            dueThrow("4: s " + node, () -> x.unify(node, 0), ARGUMENT);
            dueThrow("4: t " + node, () -> x.unify(0, node), ARGUMENT);
        }
        dueThrow("4: the next node", () -> x.unify(6, 0), ARGUMENT);
        for (int i = 4; i < 20; i++) {
            due("4: same again", x.unify(a, b), 0);
        }
        dueThrow("4: beyond 20", () -> x.unify(a, b), STATE);
        dueThrow("4: beyond 20 with a wrong node", () -> x.unify(a, 6), ARGUMENT);
        due("4: count(1) at the end", x.count(1), 20);
    }

    private static void unifyFinds() {
        TermWeaver x = new TermWeaver();
        int a = x.variable();
        int b = x.variable();
        int c = x.variable();
        int fa = x.term(3, a, -1);
        int fb = x.term(3, b, -1);
        int ffa = x.term(3, fa, -1);
        int left = x.term(4, a, fb);
        int right = x.term(4, fb, c);
        due("4: two ways", x.unify(left, right), 2);
        due("4: left is", written(x, left), "14 10 -2 10 -2");
        due("4: c is", written(x, c), "10 -2");
        dueThrow("4: changes nothing", () -> x.unify(ffa, fb), STATE);
        due("4: why() of a loop", x.why(), 2);
        due("4: left still is", written(x, left), "14 10 -2 10 -2");
        due("4: count(2) still is", x.count(2), 1);
        int k = x.term(5, -1, -1);
        int unary = x.term(5, k, -1);
        int binary = x.term(5, k, k);
        dueThrow("4: none and one argument", () -> x.unify(k, unary), STATE);
        dueThrow("4: one and two arguments", () -> x.unify(unary, binary), STATE);
        due("4: why() of another number of arguments", x.why(), 1);
        int other = x.term(6, k, -1);
        dueThrow("4: another symbol", () -> x.unify(unary, other), STATE);
    }

    private static void why() {
        TermWeaver x = new TermWeaver();
        int a = x.variable();
        int f = x.term(1, a, -1);
        int k = constant(x, 1);
        due("5: no call", x.why(), 0);
        dueThrow("5: no node", () -> x.unify(3, 0), ARGUMENT);
        due("5: no node", x.why(), 3);
        x.variable();
        x.undo(0);
        dueThrow("5: undo(1)", () -> x.undo(1), ARGUMENT);
        dueThrow("5: size(-1)", () -> x.size(-1), ARGUMENT);
        due("5: other calls leave it", x.why(), 3);
        dueThrow("5: loop", () -> x.unify(a, f), STATE);
        due("5: loop", x.why(), 2);
        dueThrow("5: clash", () -> x.unify(k, f), STATE);
        due("5: clash", x.why(), 1);
        due("5: accepted", x.unify(a, k), 1);
        due("5: accepted", x.why(), 0);
        dueThrow("5: clash behind an equation", () -> x.unify(a, f), STATE);
        due("5: clash behind an equation", x.why(), 1);
        due("5: undo", x.undo(1), 0);
        due("5: undo leaves it", x.why(), 1);
        for (int i = 0; i < 20; i++) {
            x.unify(a, a);
        }
        dueThrow("5: 20 equations, clash", () -> x.unify(k, f), STATE);
        due("5: 20 equations, clash", x.why(), 0);
        dueThrow("5: 20 equations, loop", () -> x.unify(a, f), STATE);
        due("5: 20 equations, loop", x.why(), 0);
        dueThrow("5: 20 equations, no node", () -> x.unify(0, -1), ARGUMENT);
        due("5: 20 equations, no node", x.why(), 3);
        dueThrow("5: 20 equations again", () -> x.unify(0, 0), STATE);
        due("5: 20 equations again", x.why(), 0);
    }

    private static void clashBeforeLoop() {
        TermWeaver x = new TermWeaver();
        int a = x.variable();
        int fa = x.term(1, a, -1);
        int k = constant(x, 2);
        int m = constant(x, 3);
        int left = x.term(4, a, k);
        int right = x.term(4, fa, m);
        int leftTurned = x.term(4, k, a);
        int rightTurned = x.term(4, m, fa);
        dueThrow("5: a loop and then a clash", () -> x.unify(left, right), STATE);
        due("5: a loop and then a clash", x.why(), 1);
        dueThrow("5: a clash and then a loop", () -> x.unify(leftTurned, rightTurned), STATE);
        due("5: a clash and then a loop", x.why(), 1);
        int b = x.variable();
        int fb = x.term(1, b, -1);
        int gb = x.term(5, b, -1);
        due("5: a is f(b)", x.unify(a, fb), 1);
        dueThrow("5: through two variables", () -> x.unify(b, fa), STATE);
        due("5: through two variables", x.why(), 2);
        dueThrow("5: infinite terms differ", () -> x.unify(a, gb), STATE);
        due("5: infinite terms differ", x.why(), 1);
        int ffb = x.term(1, fb, -1);
        dueThrow("5: infinite terms agree", () -> x.unify(fb, ffb), STATE);
        due("5: infinite terms agree", x.why(), 2);
    }

    private static void undo() {
        TermWeaver x = new TermWeaver();
        int a = x.variable();
        int b = x.variable();
        int k = constant(x, 7);
        int f = x.term(8, a, b);
        x.unify(a, b);
        x.unify(b, k);
        x.unify(f, f);
        for (int n : new int[] {-1, 4, 5, Integer.MIN_VALUE, Integer.MAX_VALUE}) {
            dueThrow("6: undo(" + n + ")", () -> x.undo(n), ARGUMENT);
        }
        due("6: none", x.undo(0), 3);
        due("6: the latest", x.undo(1), 2);
        due("6: f is", written(x, f), "26 21 21");
        due("6: one more", x.undo(1), 1);
        due("6: f is then", written(x, f), "26 -1 -1");
        due("6: the equation before is kept", x.same(a, b), true);
        due("6: count(2)", x.count(2), 1);
        due("6: a new one", x.unify(a, k), 1);
        due("6: all", x.undo(2), 0);
        due("6: f is at the end", written(x, f), "26 -1 -2");
        due("6: count(0)", x.count(0), 4);
        due("6: count(1)", x.count(1), 0);
        for (int i = 0; i < 20; i++) {
            x.unify(a, a);
        }
        due("6: all of 20", x.undo(20), 0);
        dueThrow("6: none is left", () -> x.undo(1), ARGUMENT);
        due("6: unify after undo", x.unify(a, b), 1);
    }

    private static void undoWithLaterNodes() {
        TermWeaver x = new TermWeaver();
        int a = x.variable();
        int k = constant(x, 1);
        x.unify(a, k);
        int b = x.variable();
        int f = x.term(2, b, a);
        due("6: later nodes", x.unify(b, a), 1);
        due("6: later nodes are", written(x, f), "8 3 3");
        due("6: without the second", x.undo(1), 1);
        due("6: later nodes are then", written(x, f), "8 -3 3");
        due("6: without the first", x.undo(1), 0);
        due("6: later nodes are at the end", written(x, f), "8 -3 -1");
        dueThrow("6: a loop", () -> x.unify(a, f), STATE);
        due("6: a loop leaves it", written(x, f), "8 -3 -1");
    }

    private static void count() {
        TermWeaver x = new TermWeaver();
        int a = x.variable();
        int b = x.variable();
        int c = x.variable();
        int k = constant(x, 0);
        due("7: nodes", x.count(0), 4);
        due("7: equations", x.count(1), 0);
        due("7: free", x.count(2), 3);
        x.unify(c, b);
        due("7: one stands for two", x.count(2), 2);
        x.unify(a, k);
        due("7: bound", x.count(2), 1);
        due("7: equations then", x.count(1), 2);
        for (int what : new int[] {-1, 3, 4, Integer.MIN_VALUE, Integer.MAX_VALUE}) {
            dueThrow("7: count(" + what + ")", () -> x.count(what), ARGUMENT);
        }
    }

    private static void same() {
        TermWeaver x = new TermWeaver();
        int a = x.variable();
        int b = x.variable();
        int fa = x.term(1, a, -1);
        int fb = x.term(1, b, -1);
        int other = x.term(1, a, -1);
        int k = constant(x, 1);
        due("8: one node", x.same(a, a), true);
        due("8: two variables", x.same(a, b), false);
        due("8: made alike", x.same(fa, other), true);
        due("8: other variables", x.same(fa, fb), false);
        due("8: other number of arguments", x.same(fa, k), false);
        x.unify(a, b);
        due("8: equal variables", x.same(a, b), true);
        due("8: over equal variables", x.same(fb, fa), true);
        int turned = x.term(2, k, a);
        int unturned = x.term(2, a, k);
        due("8: arguments turned", x.same(turned, unturned), false);
        for (int node : NO_NODES) {
            dueThrow("8: s " + node, () -> x.same(node, 0), ARGUMENT);
            dueThrow("8: t " + node, () -> x.same(0, node), ARGUMENT);
        }
        dueThrow("8: the next node", () -> x.same(8, 8), ARGUMENT);
    }

    private static void leader() {
        TermWeaver x = new TermWeaver();
        int a = x.variable();
        int b = x.variable();
        int c = x.variable();
        int fb = x.term(1, b, -1);
        int fc = x.term(1, c, -1);
        due("9: itself", x.leader(fc), fc);
        x.unify(c, b);
        due("9: least variable", x.leader(c), b);
        due("9: alike by its argument", x.leader(fc), fb);
        x.unify(fc, a);
        due("9: a bound variable", x.leader(fc), a);
        due("9: its other node", x.leader(fb), a);
        due("9: the bound variable", x.leader(a), a);
        x.undo(2);
        due("9: after undo", x.leader(fc), fc);
        for (int node : NO_NODES) {
            dueThrow("9: " + node, () -> x.leader(node), ARGUMENT);
        }
        dueThrow("9: the next node", () -> x.leader(5), ARGUMENT);
    }

    /** A tower of 40 nodes, each with the one before it twice: none can be written out. */
    private static TermWeaver tower(boolean onVariable) {
        TermWeaver x = new TermWeaver();
        if (onVariable) {
            x.variable();
        } else {
            constant(x, 0);
        }
        for (int i = 1; i < 40; i++) {
            x.term(i % 10, i - 1, i - 1);
        }
        return x;
    }

    private static void size() {
        TermWeaver x = new TermWeaver();
        int a = x.variable();
        int k = constant(x, 1);
        int f = x.term(1, a, a);
        int g = x.term(2, f, -1);
        due("10: variable", x.size(a), 1L);
        due("10: constant", x.size(k), 1L);
        due("10: two arguments", x.size(f), 3L);
        due("10: deeper", x.size(g), 4L);
        int b = x.variable();
        x.unify(b, g);
        due("10: bound", x.size(b), 4L);
        x.unify(a, x.term(3, k, k));
        due("10: below", x.size(b), 8L);
        for (int node : NO_NODES) {
            dueThrow("10: " + node, () -> x.size(node), ARGUMENT);
        }
        for (int i = 0; i < 40; i++) {
            due("10: tower " + i, tower(false).size(i), (1L << i + 1) - 1);
        }
    }

    private static void depth() {
        TermWeaver x = new TermWeaver();
        int a = x.variable();
        int k = constant(x, 1);
        int f = x.term(1, a, -1);
        int left = x.term(2, f, k);
        int right = x.term(2, k, f);
        due("11: variable", x.depth(a), 1);
        due("11: constant", x.depth(k), 1);
        due("11: one argument", x.depth(f), 2);
        due("11: longest on the left", x.depth(left), 3);
        due("11: longest on the right", x.depth(right), 3);
        int g = x.term(3, k, -1);
        x.unify(a, g);
        due("11: bound", x.depth(a), 2);
        due("11: below", x.depth(right), 4);
        for (int node : NO_NODES) {
            dueThrow("11: " + node, () -> x.depth(node), ARGUMENT);
        }
        due("11: tower", tower(true).depth(39), 40);
    }

    private static void variables() {
        TermWeaver x = new TermWeaver();
        int a = x.variable();
        int b = x.variable();
        int c = x.variable();
        int k = constant(x, 1);
        int f = x.term(1, a, b);
        int g = x.term(1, f, a);
        int h = x.term(1, g, c);
        due("12: variable", x.variables(a), 1);
        due("12: constant", x.variables(k), 0);
        due("12: two", x.variables(f), 2);
        due("12: twice the same", x.variables(g), 2);
        due("12: three", x.variables(h), 3);
        x.unify(a, b);
        due("12: equal ones", x.variables(h), 2);
        x.unify(c, g);
        due("12: bound", x.variables(h), 1);
        due("12: a bound variable", x.variables(c), 1);
        x.unify(a, k);
        due("12: none left", x.variables(h), 0);
        for (int node : NO_NODES) {
            dueThrow("12: " + node, () -> x.variables(node), ARGUMENT);
        }
        due("12: tower on a variable", tower(true).variables(39), 1);
        due("12: tower on a constant", tower(false).variables(39), 0);
    }

    private static void at() {
        TermWeaver x = new TermWeaver();
        int a = x.variable();
        int b = x.variable();
        int k = constant(x, 9);
        int f = x.term(0, b, -1);
        int g = x.term(4, f, k);
        int h = x.term(9, g, a);
        due("13: written", written(x, h), "29 14 1 -2 27 -1");
        x.unify(b, a);
        due("13: least variable", written(x, h), "29 14 1 -1 27 -1");
        int c = x.variable();
        x.unify(c, f);
        due("13: bound", written(x, c), "1 -1");
        for (long i : new long[] {-1, 6, 7, Long.MIN_VALUE, Long.MAX_VALUE, 1L << 32}) {
            dueThrow("13: at " + i, () -> x.at(h, i), BOUNDS);
        }
        for (int node : NO_NODES) {
            dueThrow("13: node " + node, () -> x.at(node, 0), ARGUMENT);
            dueThrow("13: node and index " + node, () -> x.at(node, -1), ARGUMENT);
        }
        TermWeaver tower = tower(true);
        long size = (1L << 40) - 1;
        due("13: tower, first", tower.at(39, 0), 29);
        due("13: tower, down the left", tower.at(39, 39), -1);
        due("13: tower, the leaf beside", tower.at(39, 40), -1);
        due("13: tower, right half", tower.at(39, 1L << 39), 26);
        due("13: tower, last", tower.at(39, size - 1), -1);
        dueThrow("13: tower, beyond", () -> tower.at(39, size), BOUNDS);
    }

    private static void matches() {
        TermWeaver x = new TermWeaver();
        int a = x.variable();
        int b = x.variable();
        int k = constant(x, 1);
        int faa = x.term(2, a, a);
        int fab = x.term(2, a, b);
        int fbk = x.term(2, b, k);
        int ga = x.term(3, a, -1);
        int gga = x.term(3, ga, -1);
        due("14: one node", x.matches(fab, fab), true);
        due("14: variable to all", x.matches(a, gga), true);
        due("14: variable to variable", x.matches(a, b), true);
        due("14: constant stays", x.matches(k, a), false);
        due("14: term to variable", x.matches(ga, a), false);
        due("14: its own variable deeper", x.matches(ga, gga), true);
        due("14: not the other way", x.matches(gga, ga), false);
        due("14: two to one", x.matches(fab, faa), true);
        due("14: one to two", x.matches(faa, fab), false);
        due("14: a to b and b to k", x.matches(fab, fbk), true);
        due("14: k is not b", x.matches(fbk, fab), false);
        due("14: other symbols", x.matches(faa, ga), false);
        int hgab = x.term(4, x.term(2, ga, b), a);
        int hggk = x.term(4, x.term(2, gga, k), ga);
        int hggkb = x.term(4, x.term(2, gga, k), b);
        due("14: one variable at two depths", x.matches(hgab, hggk), true);
        due("14: it differs there", x.matches(hgab, hggkb), false);
        x.unify(b, ga);
        due("14: bound to term", x.matches(hgab, hggkb), false);
        x.unify(a, k);
        due("14: nothing left to put", x.matches(faa, fab), false);
        due("14: without variables", x.matches(b, x.term(3, k, -1)), true);
        for (int node : NO_NODES) {
            dueThrow("14: s " + node, () -> x.matches(node, 0), ARGUMENT);
            dueThrow("14: t " + node, () -> x.matches(0, node), ARGUMENT);
        }
        TermWeaver tower = tower(true);
        due("14: tower", tower.matches(39, 39), true);
        due("14: tower to one higher by ten", tower.matches(29, 39), true);
        due("14: tower to one lower by ten", tower.matches(39, 29), false);
        due("14: tower to one higher by one", tower.matches(38, 39), false);
        due("14: variable to tower", tower.matches(0, 39), true);
    }

    private static void common() {
        TermWeaver x = new TermWeaver();
        int a = x.variable();
        int b = x.variable();
        int k = constant(x, 1);
        int m = constant(x, 2);
        int fak = x.term(3, a, k);
        int fbk = x.term(3, b, k);
        int fmm = x.term(3, m, m);
        int deepLeft = x.term(4, fak, fbk);
        int deepRight = x.term(4, fbk, m);
        due("15: one node", x.common(fak, fak), 3L);
        due("15: variables", x.common(a, b), 1L);
        due("15: constants", x.common(k, m), 1L);
        due("15: a constant itself", x.common(k, k), 1L);
        due("15: other variables", x.common(fak, fbk), 3L);
        due("15: nothing alike below", x.common(fak, fmm), 3L);
        due("15: other symbols", x.common(deepLeft, fak), 1L);
        due("15: variable and term", x.common(fak, a), 1L);
        due("15: cut off", x.common(deepLeft, deepRight), 5L);
        due("15: turned", x.common(deepRight, deepLeft), 5L);
        x.unify(b, fmm);
        due("15: bound", x.common(deepLeft, deepRight), 5L);
        due("15: bound itself", x.common(b, fmm), 3L);
        int oneArgument = x.term(3, a, -1);
        due("15: other number of arguments", x.common(oneArgument, fak), 1L);
        for (int node : NO_NODES) {
            dueThrow("15: s " + node, () -> x.common(node, 0), ARGUMENT);
            dueThrow("15: t " + node, () -> x.common(0, node), ARGUMENT);
        }
        due("15: tower", tower(true).common(39, 39), (1L << 40) - 1);
        due("15: tower beside one lower by ten", tower(true).common(39, 29), (1L << 30) - 1);
        due("15: tower beside one lower by one", tower(true).common(39, 38), 1L);
    }

    /** Each variable is bound to a term of the next one, so that every value hangs on later nodes. */
    private static void chainOfBoundVariables() {
        TermWeaver x = new TermWeaver();
        for (int i = 0; i < 20; i++) {
            x.variable();
        }
        for (int i = 0; i < 20; i++) {
            x.term(1, i, i);
        }
        for (int i = 0; i < 19; i++) {
            due("4: chain " + i, x.unify(i, 20 + i + 1), 1);
        }
        due("10: chain", x.size(20), (1L << 21) - 1);
        due("11: chain", x.depth(20), 21);
        due("12: chain", x.variables(20), 1);
        due("13: chain", x.at(20, 20), -20);
        due("9: chain", x.leader(39), 18);
        due("14: chain", x.matches(39, 20), true);
        due("15: chain", x.common(20, 30), (1L << 11) - 1);
        dueThrow("5: chain closed", () -> x.unify(19, 20), STATE);
        due("5: chain closed", x.why(), 2);
        due("6: chain", x.undo(18), 1);
        due("10: chain after undo", x.size(20), 7L);
    }

    private static int list(TermWeaver x, int from, int to) {
        int rest = to;
        for (int i = to - 1; i >= from; i--) {
            rest = x.term(2, i, rest);
        }
        return rest;
    }

    private static void longLists() {
        TermWeaver x = new TermWeaver();
        for (int i = 0; i < 20; i++) {
            x.variable();
        }
        int left = list(x, 0, 9);
        int right = list(x, 10, 19);
        due("12: ten", x.variables(left), 10);
        due("4: lists", x.unify(left, right), 10);
        due("8: lists' ends", x.same(9, 19), true);
        due("9: lists' ends", x.leader(19), 9);
        due("6: lists", x.undo(1), 0);
        TermWeaver y = new TermWeaver();
        for (int i = 0; i < 20; i++) {
            y.variable();
        }
        due("12: twenty", y.variables(list(y, 0, 19)), 20);
    }

    /** One tower on a variable, with the even nodes, and one on a constant, with the odd ones. */
    private static void twoTowers() {
        TermWeaver x = new TermWeaver();
        x.variable();
        constant(x, 3);
        for (int i = 2; i < 40; i++) {
            x.term(4, i - 2, i - 2);
        }
        dueThrow("4: towers, one lower", () -> x.unify(38, 37), STATE);
        due("5: towers, clash at the bottom", x.why(), 1);
        dueThrow("4: a tower below itself", () -> x.unify(38, 36), STATE);
        due("5: towers, loop at the bottom", x.why(), 2);
        due("4: towers, one higher", x.unify(36, 39), 1);
        due("9: towers, one higher", x.leader(39), 36);
        due("10: towers, one higher", x.size(38), (1L << 21) - 1);
        due("6: towers", x.undo(1), 0);
        due("4: towers", x.unify(38, 39), 1);
        due("9: towers", x.leader(39), 38);
        due("9: towers, bottom", x.leader(1), 0);
        due("13: towers", x.at(38, x.size(38) - 1), 9);
        dueThrow("4: towers, then a clash", () -> x.unify(0, 3), STATE);
        due("5: towers, then a clash", x.why(), 1);
    }

    private static void objectsApart() {
        TermWeaver x = new TermWeaver();
        TermWeaver y = new TermWeaver();
        x.variable();
        x.unify(0, 0);
        due("1: another object has no nodes", y.count(0), 0);
        due("1: another object has no equations", y.count(1), 0);
    }
}
