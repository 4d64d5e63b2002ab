import java.util.ArrayList;
import java.util.Collections;
import java.util.List;

/**
 * A test of its own for each sentence of the document that names a boundary: the last call that is
 * accepted, the first that is refused, and that a refused call changes nothing but what is said.
 */
public final class BoundaryTest {
    private static final String ARGUMENT = "IllegalArgumentException";
    private static final String STATE = "IllegalStateException";
    private static final String BOUNDS = "IndexOutOfBoundsException";
    private static final int MOST_CALLS = 512;
    private static final long INT_RANGE = 1L << 32;
    private static final int LEAST = Integer.MIN_VALUE;
    private static final int MOST = Integer.MAX_VALUE;

    private static int wrong = 0;
    private static String sentence = "";

    public static void main(String[] args) {
        testWhatItIs();
        testTerms();
        testMaking();
        testUnify();
        testWhy();
        testUndo();
        testCount();
        testNodesAsked();
        testValues();
        testAt();
        testMatches();
        testCommon();
        System.out.println(wrong == 0 ? "all boundaries hold" : wrong + " answers are wrong");
        if (wrong != 0) {
            System.exit(1);
        }
    }

    private static void test(String text, Runnable body) {
        sentence = text;
        body.run();
    }

    private static void check(String what, String got, String want) {
        if (!got.equals(want)) {
            wrong++;
            System.out.println(sentence + "\n  " + what + " answered " + got + ", due is " + want);
        }
    }

    private static String answer(TermWeaver x, String call) {
        try {
            return String.valueOf(called(x, call.split("[(), ]+")));
        } catch (RuntimeException e) {
            return e.getClass().getSimpleName();
        }
    }

    private static Object called(TermWeaver x, String[] words) {
        switch (words[0]) {
            case "variable": return x.variable();
            case "term": return x.term(number(words[1]), number(words[2]), number(words[3]));
            case "unify": return x.unify(number(words[1]), number(words[2]));
            case "why": return x.why();
            case "undo": return x.undo(number(words[1]));
            case "count": return x.count(number(words[1]));
            case "same": return x.same(number(words[1]), number(words[2]));
            case "leader": return x.leader(number(words[1]));
            case "size": return x.size(number(words[1]));
            case "depth": return x.depth(number(words[1]));
            case "variables": return x.variables(number(words[1]));
            case "at": return x.at(number(words[1]), Long.parseLong(words[2]));
            case "matches": return x.matches(number(words[1]), number(words[2]));
            case "common": return x.common(number(words[1]), number(words[2]));
            default: throw new AssertionError(words[0]);
        }
    }

    private static int number(String word) {
        return Integer.parseInt(word);
    }

    /**
     * A run of calls. All that can be asked after it is asked of new objects on which the run is made
     * again, so that no object is used for more calls than the document allows.
     */
    private static final class Run {
        private final List<String> calls = new ArrayList<>();
        private final TermWeaver x = new TermWeaver();
        private List<String> lastPicture = null;

        /** These calls must be accepted. */
        Run with(String... more) {
            for (String call : more) {
                accepts(call);
            }
            return this;
        }

        Run times(int n, String call) {
            return with(Collections.nCopies(n, call).toArray(new String[0]));
        }

        String make(String call) {
            lastPicture = null;
            calls.add(call);
            if (calls.size() > MOST_CALLS) {
                throw new AssertionError("a run is too long");
            }
            return answer(x, call);
        }

        Run accepts(String call) {
            String got = make(call);
            check(told(call), got.endsWith("Exception") ? got : "accepted", "accepted");
            return this;
        }

        Run due(String call, Object want) {
            check(told(call), make(call), String.valueOf(want));
            return this;
        }

        /** An answer that is due, of a call that changes nothing. */
        Run asked(String call, Object want) {
            List<String> before = picture();
            String why = ask("why()");
            due(call, want);
            looksLike(before, call);
            check(told("why() after " + call), ask("why()"), why);
            return this;
        }

        Run refuses(String call, String exception) {
            return asked(call, exception);
        }

        Run refusesUnify(String call, String exception, int why) {
            List<String> before = picture();
            due(call, exception);
            looksLike(before, call);
            check(told("why() after " + call), ask("why()"), String.valueOf(why));
            return this;
        }

        private void looksLike(List<String> before, String call) {
            List<String> after = picture();
            for (int i = 0; i < before.size() && i < after.size(); i++) {
                if (!after.get(i).equals(before.get(i))) {
                    check(told("the first that differs after " + call), after.get(i), before.get(i));
                    return;
                }
            }
            check(told("how much can be asked after " + call), "" + after.size(), "" + before.size());
        }

        private String told(String call) {
            int from = Math.max(0, calls.size() - 12);
            return (from == 0 ? "" : ".. ") + calls.subList(from, calls.size()) + ": " + call;
        }

        private String ask(String question) {
            return answer(madeAgain(calls), question);
        }

        /** All that tells the nodes, the equations and the values, but not why(). */
        private List<String> picture() {
            if (lastPicture != null) {
                return lastPicture;
            }
            int nodes = number(ask("count(0)"));
            int equations = number(ask("count(1)"));
            List<String> answers = answers(calls, allQuestions(nodes));
            for (int n = 1; n <= equations; n++) {
                List<String> without = new ArrayList<>(calls);
                without.add("undo(" + n + ")");
                answers.addAll(answers(without, fewQuestions(nodes)));
            }
            lastPicture = answers;
            return answers;
        }
    }

    private static TermWeaver madeAgain(List<String> calls) {
        TermWeaver x = new TermWeaver();
        for (String call : calls) {
            answer(x, call);
        }
        return x;
    }

    private static List<String> answers(List<String> calls, List<String> questions) {
        List<String> answers = new ArrayList<>();
        TermWeaver x = null;
        int used = MOST_CALLS;
        for (String question : questions) {
            if (used == MOST_CALLS) {
                x = madeAgain(calls);
                used = calls.size();
            }
            answers.add(question + " = " + answer(x, question));
            used++;
        }
        return answers;
    }

    private static List<String> fewQuestions(int nodes) {
        List<String> questions = new ArrayList<>(List.of("count(0)", "count(1)", "count(2)"));
        for (int s = 0; s < nodes; s++) {
            questions.add("leader(" + s + ")");
            questions.add("size(" + s + ")");
        }
        return questions;
    }

    private static List<String> allQuestions(int nodes) {
        List<String> questions = fewQuestions(nodes);
        for (int s = 0; s < nodes; s++) {
            questions.add("depth(" + s + ")");
            questions.add("variables(" + s + ")");
            for (int i = 0; i < 8; i++) {
                questions.add("at(" + s + ", " + i + ")");
            }
            for (int t = 0; t < nodes; t++) {
                questions.add("same(" + s + ", " + t + ")");
                questions.add("matches(" + s + ", " + t + ")");
                questions.add("common(" + s + ", " + t + ")");
            }
        }
        return questions;
    }

    private static String call(String name, long... arguments) {
        StringBuilder text = new StringBuilder(name).append('(');
        for (int i = 0; i < arguments.length; i++) {
            text.append(i == 0 ? "" : ", ").append(arguments[i]);
        }
        return text.append(')').toString();
    }

    private static Run run(String... calls) {
        return new Run().with(calls);
    }

    private static Run variables(int n) {
        return new Run().times(n, "variable()");
    }

    /** So many nodes, each with the one before it twice, on the node 0. */
    private static Run tower(String ground, int nodes) {
        Run x = run(ground);
        for (int i = 1; i < nodes; i++) {
            x.due(call("term", i % 10, i - 1, i - 1), i);
        }
        return x;
    }

    // ---- What it is ----

    private static void testWhatItIs() {
        test("An object is used for at most 512 calls: the last of them", BoundaryTest::lastOf512Calls);
        test("What later calls answer is free, but not what they may throw", BoundaryTest::laterCalls);
    }

    /** A run of 511 calls: at its end, 0 and 1 are one variable, and the last two nodes have the symbol 5. */
    private static List<String> almostAllCalls(int nodes) {
        List<String> calls = new ArrayList<>(Collections.nCopies(nodes - 2, "variable()"));
        calls.add("term(5, 0, 1)");
        calls.add("term(5, 2, 2)");
        String[] filling = {"unify(2, 3)", "undo(1)", "unify(40, 0)", "count(3)", "common(0, 1)"};
        for (int i = 0; calls.size() < MOST_CALLS - 2; i++) {
            calls.add(filling[i % filling.length]);
        }
        if (calls.get(calls.size() - 1).equals("unify(2, 3)")) {
            calls.set(calls.size() - 1, "count(0)");
        }
        calls.add("unify(0, 1)");
        return calls;
    }

    private static void lastOf512Calls() {
        List<String> full = almostAllCalls(40);
        check("calls before the last", "" + full.size(), "511");
        String[][] last = {
            {"variable()", STATE}, {"term(0, 0, 0)", STATE}, {"unify(0, 38)", STATE}, {"unify(1, 0)", "0"},
            {"unify(38, 39)", "1"}, {"why()", "0"}, {"undo(1)", "0"}, {"undo(2)", ARGUMENT},
            {"count(0)", "40"}, {"count(1)", "1"}, {"count(2)", "37"}, {"same(0, 1)", "true"},
            {"leader(1)", "0"}, {"size(38)", "3"}, {"depth(38)", "2"}, {"variables(38)", "1"},
            {"at(38, 2)", "-1"}, {"matches(38, 39)", "true"}, {"common(38, 39)", "3"},
        };
        for (String[] each : last) {
            check("as the 512th call, " + each[0], answer(madeAgain(full), each[0]), each[1]);
        }
        List<String> roomForOne = almostAllCalls(39);
        check("as the 512th call, variable()", answer(madeAgain(roomForOne), "variable()"), "39");
        check("as the 512th call, term(0, 0, 0)", answer(madeAgain(roomForOne), "term(0, 0, 0)"), "39");
    }

    private static void laterCalls() {
        TermWeaver x = madeAgain(almostAllCalls(39));
        for (String call : almostAllCalls(39)) {
            String got = answer(x, call);
            boolean named = !got.endsWith("Exception") || got.equals(ARGUMENT) || got.equals(STATE);
            check(call, named ? "an answer that is named" : got, "an answer that is named");
        }
    }

    // ---- Terms ----

    private static void testTerms() {
        test("NODES are numbered 0, 1, .. in the order in which they were made, at most 40",
            BoundaryTest::numbersOfNodes);
        test("ARGUMENTS, which are nodes made before it", BoundaryTest::argumentsMadeBefore);
        test("0, 1 or 2 ARGUMENTS", BoundaryTest::numbersOfArguments);
        test("The same symbol with another number of arguments counts as another one",
            BoundaryTest::otherNumberOfArguments);
        test("EQUATIONS are pairs of nodes, in the order in which they were asked for and accepted",
            BoundaryTest::orderOfEquations);
        test("The MOST GENERAL one", BoundaryTest::mostGeneral);
        test("Of variables that become the same variable, the one with the least number stands for all",
            BoundaryTest::leastVariable);
        test("A variable is FREE if its value is a variable, else BOUND", BoundaryTest::freeOrBound);
        test("A CLASH: no solution even if the terms may be infinite", BoundaryTest::clash);
        test("A LOOP: a solution only with infinite terms", BoundaryTest::loop);
        test("A loop through many equations", BoundaryTest::longLoop);
    }

    private static void numbersOfNodes() {
        Run x = new Run().refuses("term(0, 0, 0)", ARGUMENT);
        for (int i = 0; i < 40; i++) {
            x.due(i % 2 == 0 ? "variable()" : call("term", i / 4, i - 1, -1), i).due("count(0)", i + 1);
            if (i % 13 == 0) {
                x.refuses("term(10, 0, 0)", ARGUMENT).accepts(call("unify", i, i)).accepts("undo(1)");
            }
        }
        x.refuses("variable()", STATE).refuses("term(0, 0, 0)", STATE).due("count(0)", 40);
    }

    private static void argumentsMadeBefore() {
        Run x = new Run().refuses("term(1, 0, -1)", ARGUMENT).refuses("term(1, 0, 0)", ARGUMENT);
        x.due("variable()", 0).refuses("term(1, 1, -1)", ARGUMENT).refuses("term(1, 0, 1)", ARGUMENT);
        x.due("term(1, 0, -1)", 1).refuses("term(1, 2, 0)", ARGUMENT).due("term(1, 1, 0)", 2);
        x.refuses("term(1, 0, 3)", ARGUMENT).due("term(1, 0, 2)", 3).due("term(1, 3, 3)", 4);
    }

    private static void numbersOfArguments() {
        run("variable()", "term(2, -1, -1)", "term(2, 0, -1)", "term(2, 0, 1)")
            .asked("size(1)", 1).asked("size(2)", 2).asked("size(3)", 3)
            .asked("at(1, 0)", 6).asked("at(2, 0)", 7).asked("at(3, 0)", 8);
    }

    private static void otherNumberOfArguments() {
        run("variable()", "term(7, -1, -1)", "term(7, 0, -1)", "term(7, 0, 0)", "term(7, -1, -1)")
            .asked("same(1, 4)", true).asked("same(1, 2)", false).asked("same(2, 3)", false)
            .asked("matches(1, 4)", true).asked("matches(1, 2)", false).asked("matches(2, 3)", false)
            .asked("matches(3, 2)", false).asked("common(1, 4)", 1).asked("common(2, 3)", 1)
            .refusesUnify("unify(1, 2)", STATE, 1).refusesUnify("unify(2, 3)", STATE, 1)
            .refusesUnify("unify(3, 1)", STATE, 1).due("unify(1, 4)", 0).due("why()", 0);
    }

    private static void orderOfEquations() {
        Run x = run("variable()", "variable()", "variable()", "term(1, -1, -1)", "term(2, -1, -1)", "term(3, 0, -1)");
        x.due("unify(0, 1)", 1).refusesUnify("unify(3, 4)", STATE, 1).due("unify(2, 3)", 1);
        x.refusesUnify("unify(0, 5)", STATE, 2).due("unify(1, 4)", 1).refusesUnify("unify(6, 0)", ARGUMENT, 3);
        x.due("count(1)", 3).due("undo(1)", 2).due("same(0, 1)", true).due("same(2, 3)", true);
        x.due("same(1, 4)", false).due("undo(1)", 1).due("same(0, 1)", true).due("same(2, 3)", false);
        x.due("undo(1)", 0).due("same(0, 1)", false);
    }

    private static void mostGeneral() {
        Run x = run("variable()", "variable()", "variable()", "term(1, 0, 1)", "term(1, 1, 2)", "term(2, -1, -1)");
        x.due("unify(3, 4)", 2).due("count(2)", 1).due("variables(3)", 1).due("at(3, 1)", -1).due("at(3, 2)", -1);
        x.due("same(0, 5)", false).due("unify(1, 5)", 1).due("count(2)", 0).due("at(3, 1)", 6);
        run("variable()", "variable()", "term(1, 1, -1)").due("unify(0, 2)", 1).due("count(2)", 1)
            .due("at(0, 1)", -2).due("variables(0)", 1);
    }

    private static void leastVariable() {
        String[][] orders = {
            {"unify(1, 3)", "unify(3, 4)"}, {"unify(3, 1)", "unify(4, 3)"}, {"unify(4, 3)", "unify(3, 1)"},
            {"unify(3, 4)", "unify(1, 4)"}, {"unify(4, 1)", "unify(3, 1)"}, {"unify(1, 4)", "unify(4, 3)"},
        };
        for (String[] order : orders) {
            Run x = run("term(1, -1, -1)", "variable()", "term(1, 1, -1)", "variable()", "variable()", "term(2, 4, 3)");
            x.asked("at(5, 1)", -5).asked("at(5, 2)", -4);
            x.due(order[0], 1).due(order[1], 1);
            x.asked("at(1, 0)", -2).asked("at(3, 0)", -2).asked("at(4, 0)", -2).asked("leader(4)", 1);
            x.asked("at(5, 1)", -2).asked("at(5, 2)", -2).asked("count(2)", 1);
            x.due("undo(2)", 0).asked("at(5, 1)", -5).asked("at(5, 2)", -4).asked("leader(4)", 4);
        }
        variables(40).due("unify(39, 38)", 1).due("at(39, 0)", -39).due("unify(39, 0)", 1)
            .due("at(38, 0)", -1).due("at(39, 0)", -1).due("undo(1)", 1).due("at(39, 0)", -39)
            .due("undo(1)", 0).due("at(39, 0)", -40);
    }

    private static void freeOrBound() {
        Run x = run("variable()", "variable()", "variable()", "term(1, 2, -1)").asked("count(2)", 3);
        x.due("unify(1, 0)", 1).asked("count(2)", 2).asked("at(1, 0)", -1).asked("size(1)", 1);
        x.due("unify(1, 3)", 1).asked("count(2)", 1).asked("at(0, 0)", 4).asked("at(1, 0)", 4);
        x.asked("at(2, 0)", -3).asked("variables(1)", 1);
    }

    private static void clash() {
        Run x = run("variable()", "term(1, 0, -1)", "term(2, 0, -1)", "term(1, 1, -1)", "term(3, 0, 0)");
        x.with("term(3, 1, 2)", "term(3, 1, 3)", "term(3, 1, 1)", "term(4, -1, -1)", "term(5, -1, -1)");
        x.with("term(4, -1, -1)", "term(6, 0, 8)", "term(6, 1, 9)", "term(6, 8, 0)", "term(6, 9, 1)");
        x.refusesUnify("unify(8, 9)", STATE, 1).due("unify(8, 10)", 0).due("why()", 0);
        x.refusesUnify("unify(4, 5)", STATE, 1).refusesUnify("unify(4, 6)", STATE, 2);
        x.refusesUnify("unify(4, 7)", STATE, 2);
        x.refusesUnify("unify(11, 12)", STATE, 1).refusesUnify("unify(13, 14)", STATE, 1);
        x.refusesUnify("unify(1, 2)", STATE, 1).refusesUnify("unify(1, 3)", STATE, 2);
        x.due("unify(0, 8)", 1).refusesUnify("unify(0, 9)", STATE, 1).refusesUnify("unify(0, 1)", STATE, 1);
        x.due("unify(0, 10)", 0);
        deepClash();
    }

    /** Two towers of twenty nodes, too many pairs to go through, that differ, if at all, at the ground. */
    private static void deepClash() {
        for (int symbol = 3; symbol <= 4; symbol++) {
            Run x = run("term(3, -1, -1)", call("term", symbol, -1, -1));
            for (int i = 2; i < 40; i++) {
                x.with(call("term", 1, i - 2, i - 2));
            }
            if (symbol == 3) {
                x.due("unify(38, 39)", 0).due("why()", 0);
                x.refusesUnify("unify(36, 39)", STATE, 1);
            } else {
                x.refusesUnify("unify(38, 39)", STATE, 1);
            }
        }
    }

    private static void loop() {
        Run x = run("variable()", "variable()", "term(1, 0, -1)", "term(1, 1, -1)", "term(2, 0, 1)", "term(2, 3, 2)");
        x.with("term(2, 3, 0)", "variable()", "term(2, 3, 7)");
        x.due("unify(0, 0)", 0).refusesUnify("unify(0, 2)", STATE, 2).refusesUnify("unify(2, 0)", STATE, 2);
        x.refusesUnify("unify(4, 5)", STATE, 2).refusesUnify("unify(4, 6)", STATE, 2);
        x.due("unify(4, 8)", 2).due("why()", 0).due("undo(1)", 1);
        x.due("unify(0, 3)", 1).refusesUnify("unify(1, 2)", STATE, 2).refusesUnify("unify(1, 0)", STATE, 2);
        x.refusesUnify("unify(2, 1)", STATE, 2).due("unify(3, 0)", 0);
        x.due("undo(1)", 2).due("undo(1)", 1).due("unify(1, 2)", 1).due("why()", 0);
    }

    private static void longLoop() {
        Run x = variables(20);
        for (int i = 0; i < 19; i++) {
            x.due(call("term", 1, i, -1), 20 + i);
        }
        x.due("term(1, 19, -1)", 39);
        for (int i = 0; i < 19; i++) {
            x.due(call("unify", i + 1, 20 + i), 1);
        }
        x.refusesUnify("unify(0, 39)", STATE, 2).refusesUnify("unify(19, 0)", STATE, 2);
        x.due("depth(39)", 21).due("unify(0, 0)", 0).due("count(1)", 20).refusesUnify("unify(0, 39)", STATE, 0);
        x.due("undo(2)", 18).due("unify(0, 39)", 1).due("depth(18)", 20).due("depth(17)", 19);
    }

    // ---- Promises 1, 2 and 3 ----

    private static void testMaking() {
        test("1: No nodes, no equations", BoundaryTest::nothingYet);
        test("2: Illegal state: there are 40 nodes", BoundaryTest::variableBesideForty);
        test("3: also if there is one like it", BoundaryTest::likeAnother);
        test("3: b = -1: with one argument, a; both -1: with none", BoundaryTest::missingArguments);
        test("3: Illegal argument: symbol is not 0 .. 9", BoundaryTest::symbols);
        test("3: Illegal argument: a is -1 and b is not", BoundaryTest::firstMissing);
        test("3: Illegal argument: one of them is neither -1 nor a node", BoundaryTest::argumentsNoNodes);
        test("3: illegal state: there are 40 nodes", BoundaryTest::termBesideForty);
        test("3: a wrong argument beside 40 nodes", BoundaryTest::wrongTermBesideForty);
    }

    private static void nothingYet() {
        Run x = new Run().asked("count(0)", 0).asked("count(1)", 0).asked("count(2)", 0).asked("why()", 0);
        x.asked("undo(0)", 0).refuses("undo(1)", ARGUMENT).refuses("undo(-1)", ARGUMENT);
        for (String name : new String[] {"leader", "size", "depth", "variables"}) {
            x.refuses(call(name, 0), ARGUMENT);
        }
        for (String name : new String[] {"same", "matches", "common", "at"}) {
            x.refuses(call(name, 0, 0), ARGUMENT);
        }
        x.refuses("term(0, 0, -1)", ARGUMENT).refusesUnify("unify(0, 0)", ARGUMENT, 3);
        x.due("variable()", 0).due("unify(0, 0)", 0);
        // What one object holds is not seen in the next.
        new Run().asked("count(0)", 0).asked("count(1)", 0).asked("count(2)", 0).asked("why()", 0);
    }

    private static void variableBesideForty() {
        variables(39).due("variable()", 39).due("count(0)", 40).due("count(2)", 40)
            .refuses("variable()", STATE).refuses("variable()", STATE)
            .due("unify(38, 39)", 1).refuses("variable()", STATE).due("undo(1)", 0).refuses("variable()", STATE);
        Run x = tower("term(0, -1, -1)", 39).due("variable()", 39).refuses("variable()", STATE);
        x.refusesUnify("unify(38, 37)", STATE, 1).refuses("variable()", STATE).due("why()", 1);
    }

    private static void likeAnother() {
        Run x = run("variable()").due("variable()", 1).due("term(4, 0, 1)", 2).due("term(4, 0, 1)", 3);
        x.due("term(5, -1, -1)", 4).due("term(5, -1, -1)", 5).due("count(0)", 6);
        x.asked("same(2, 3)", true).asked("same(4, 5)", true).asked("same(0, 1)", false);
        x.due("unify(2, 3)", 0).due("undo(1)", 0);
        new Run().times(39, "term(0, -1, -1)").due("term(0, -1, -1)", 39).refuses("term(0, -1, -1)", STATE);
    }

    private static void missingArguments() {
        Run x = run("variable()").due("term(3, -1, -1)", 1).due("term(3, 0, -1)", 2).due("term(3, 0, 0)", 3);
        x.asked("at(1, 0)", 9).refuses("at(1, 1)", BOUNDS);
        x.asked("at(2, 0)", 10).asked("at(2, 1)", -1).refuses("at(2, 2)", BOUNDS);
        x.asked("at(3, 0)", 11).asked("at(3, 1)", -1).asked("at(3, 2)", -1).refuses("at(3, 3)", BOUNDS);
    }

    private static void symbols() {
        Run x = run("variable()");
        for (int symbol : new int[] {-1, 10, -2, 11, -3, 12, LEAST, MOST}) {
            x.refuses(call("term", symbol, -1, -1), ARGUMENT).refuses(call("term", symbol, 0, -1), ARGUMENT);
            x.refuses(call("term", symbol, 0, 0), ARGUMENT);
        }
        x.due("term(0, -1, -1)", 1).due("term(0, 0, -1)", 2).due("term(0, 0, 0)", 3);
        x.due("term(9, -1, -1)", 4).due("term(9, 0, -1)", 5).due("term(9, 0, 0)", 6);
        x.due("at(1, 0)", 0).due("at(2, 0)", 1).due("at(3, 0)", 2);
        x.due("at(4, 0)", 27).due("at(5, 0)", 28).due("at(6, 0)", 29);
        allSymbols();
    }

    private static void allSymbols() {
        Run x = new Run();
        for (int symbol = 0; symbol < 10; symbol++) {
            x.due(call("term", symbol, -1, -1), symbol).due(call("at", symbol, 0), 3 * symbol);
        }
        for (int s = 0; s < 9; s++) {
            x.due(call("same", s, s + 1), false).due(call("leader", s), s);
        }
    }

    private static void firstMissing() {
        Run x = run("variable()", "variable()").refuses("term(1, -1, 0)", ARGUMENT).refuses("term(1, -1, 1)", ARGUMENT);
        x.refuses("term(1, -1, 2)", ARGUMENT).refuses("term(1, -1, -2)", ARGUMENT);
        x.due("term(1, -1, -1)", 2).due("term(1, 0, -1)", 3).refuses("term(1, -1, 3)", ARGUMENT);
        new Run().refuses("term(1, -1, 0)", ARGUMENT).due("term(1, -1, -1)", 0);
    }

    private static void argumentsNoNodes() {
        Run x = run("variable()", "variable()");
        for (int node : new int[] {-2, 2, 3, 39, 40, LEAST, MOST}) {
            x.refuses(call("term", 1, node, -1), ARGUMENT).refuses(call("term", 1, node, 0), ARGUMENT);
            x.refuses(call("term", 1, 0, node), ARGUMENT).refuses(call("term", 1, node, node), ARGUMENT);
        }
        x.due("term(1, 1, -1)", 2).due("term(1, 0, 2)", 3).due("term(1, 3, 0)", 4);
        x.refuses("term(1, 5, 0)", ARGUMENT).refuses("term(1, 0, 5)", ARGUMENT);
        variables(39).refuses("term(1, 39, -1)", ARGUMENT).refuses("term(1, 0, 39)", ARGUMENT)
            .due("term(1, 38, 38)", 39);
    }

    private static void termBesideForty() {
        for (String last : new String[] {"term(1, -1, -1)", "term(1, 38, -1)", "term(1, 0, 38)"}) {
            variables(39).due(last, 39).refuses(last, STATE).refuses("term(0, -1, -1)", STATE)
                .refuses("term(9, 39, 39)", STATE).due("count(0)", 40);
        }
        Run x = variables(40).refuses("term(0, -1, -1)", STATE).due("unify(0, 1)", 1);
        x.refuses("term(0, 0, 1)", STATE).due("undo(1)", 0).refuses("term(0, 0, 1)", STATE);
    }

    /** The document does not say which is told; the wrong argument stands first in its text. */
    private static void wrongTermBesideForty() {
        variables(40).refuses("term(10, 0, 0)", ARGUMENT).refuses("term(-1, -1, -1)", ARGUMENT)
            .refuses("term(0, -1, 0)", ARGUMENT).refuses("term(0, 40, -1)", ARGUMENT)
            .refuses("term(0, 0, -2)", ARGUMENT).refuses("term(0, 39, 39)", STATE);
    }

    // ---- Promise 4 ----

    private static void testUnify() {
        test("4: which may be one node", BoundaryTest::oneNodeTwice);
        test("4: or equal already", BoundaryTest::equalAlready);
        test("4: by how many count(2) is less then", BoundaryTest::fewerFreeVariables);
        test("4: Illegal argument: s or t is no node", BoundaryTest::unifyNoNode);
        test("4: illegal state: there are 20 equations", BoundaryTest::twentyEquations);
        test("4: illegal state: there would be no solution", BoundaryTest::noSolution);
        test("4: changing nothing but why()", BoundaryTest::refusedInTheMiddle);
        test("4: a wrong node beside 20 equations", BoundaryTest::wrongNodeBesideTwenty);
    }

    private static void oneNodeTwice() {
        Run x = run("variable()", "term(1, -1, -1)", "term(2, 0, 1)");
        for (int s = 0; s < 3; s++) {
            x.due(call("unify", s, s), 0).due("count(1)", s + 1).due("count(2)", 1).due("why()", 0);
        }
        x.due("undo(3)", 0).due("count(2)", 1).due("unify(0, 1)", 1).due("unify(0, 0)", 0).due("undo(1)", 1);
        x.due("same(0, 1)", true);
    }

    private static void equalAlready() {
        Run x = run("variable()", "variable()", "variable()", "term(1, 0, -1)", "term(1, 0, -1)", "term(1, 1, -1)");
        x.due("unify(3, 4)", 0).due("count(1)", 1).due("unify(3, 5)", 1).due("unify(0, 1)", 0);
        x.due("unify(1, 0)", 0).due("unify(3, 5)", 0).due("count(1)", 5).due("count(2)", 2);
        x.due("unify(2, 3)", 1).due("unify(2, 4)", 0).due("unify(5, 2)", 0).due("count(1)", 8);
        x.due("undo(2)", 6).due("same(2, 4)", true).due("undo(1)", 5).due("same(2, 4)", false);
        x.due("undo(3)", 2).due("same(0, 1)", true).due("undo(1)", 1).due("same(0, 1)", false);
    }

    private static void fewerFreeVariables() {
        run("variable()", "variable()", "term(1, -1, -1)", "term(1, -1, -1)")
            .due("unify(2, 3)", 0).due("unify(0, 1)", 1).due("unify(0, 2)", 1).due("count(2)", 0)
            .due("unify(1, 3)", 0).due("undo(3)", 1).due("count(2)", 2);
        // A list of 14 variables beside one of the variable 0 alone.
        Run x = variables(14).with("term(1, 12, 13)", "term(1, 0, 0)");
        for (int i = 11; i >= 0; i--) {
            int made = number(x.make("count(0)"));
            x.with(call("term", 1, i, made - 2), call("term", 1, 0, made - 1));
        }
        x.due("count(0)", 40).due("count(2)", 14).due("unify(38, 39)", 13).due("count(2)", 1);
        x.due("unify(38, 39)", 0).due("undo(2)", 0).due("count(2)", 14);
        everyVariableAtOnce();
    }

    private static void everyVariableAtOnce() {
        Run x = variables(20).with("term(0, -1, -1)");
        for (int i = 0; i < 20; i++) {
            x.due(call("unify", i, i == 0 ? 20 : i - 1), 1).due("count(2)", 19 - i);
        }
        x.due("count(1)", 20).due("undo(20)", 0).due("count(2)", 20);
    }

    private static void unifyNoNode() {
        Run x = new Run().refusesUnify("unify(0, 0)", ARGUMENT, 3).refusesUnify("unify(-1, -1)", ARGUMENT, 3);
        x.with("variable()", "variable()").due("unify(0, 1)", 1).due("why()", 0);
        for (int node : new int[] {-1, 2, -2, 3, 40, LEAST, MOST}) {
            x.refusesUnify(call("unify", node, 0), ARGUMENT, 3);
            x.due("unify(1, 0)", 0).due("undo(1)", 1).due("why()", 0);
            x.refusesUnify(call("unify", 0, node), ARGUMENT, 3);
            x.due("unify(0, 1)", 0).due("undo(1)", 1).due("why()", 0);
            x.refusesUnify(call("unify", node, node), ARGUMENT, 3);
        }
        variables(40).refusesUnify("unify(40, 39)", ARGUMENT, 3).refusesUnify("unify(39, 40)", ARGUMENT, 3)
            .due("unify(39, 38)", 1).due("why()", 0);
    }

    private static void twentyEquations() {
        Run x = variables(30).with("term(1, 0, -1)");
        for (int i = 0; i < 19; i++) {
            x.due(call("unify", i, i + 1), 1).due("count(1)", i + 1);
        }
        x.refusesUnify("unify(0, 30)", STATE, 2).due("unify(19, 20)", 1).due("count(1)", 20);
        x.refusesUnify("unify(20, 21)", STATE, 0).refusesUnify("unify(0, 0)", STATE, 0);
        x.refusesUnify("unify(0, 1)", STATE, 0).refusesUnify("unify(0, 30)", STATE, 0);
        x.due("undo(1)", 19).due("unify(20, 21)", 1).refusesUnify("unify(19, 20)", STATE, 0);
        x.due("undo(20)", 0).due("unify(0, 1)", 1).due("count(1)", 1);
    }

    private static void noSolution() {
        Run x = run("variable()", "term(1, 0, -1)", "term(2, -1, -1)", "term(3, -1, -1)", "term(1, 2, -1)");
        x.refusesUnify("unify(0, 1)", STATE, 2).refusesUnify("unify(2, 3)", STATE, 1);
        x.refusesUnify("unify(1, 2)", STATE, 1).due("unify(1, 4)", 1).due("why()", 0);
        x.refusesUnify("unify(0, 3)", STATE, 1).due("unify(0, 2)", 0).due("undo(2)", 0).due("unify(0, 3)", 1);
        x.refusesUnify("unify(1, 4)", STATE, 1);
    }

    /** Much is equal already when the clash or the loop is met, and all of it must be forgotten. */
    private static void refusedInTheMiddle() {
        Run x = run("variable()", "variable()", "variable()", "variable()", "term(1, -1, -1)", "term(2, -1, -1)");
        x.with("term(3, 0, 4)", "term(3, 1, 5)", "term(4, 6, 2)", "term(4, 7, 3)");
        x.with("term(5, 0, -1)", "term(3, 0, 1)", "term(3, 2, 10)", "term(3, 1, 10)");
        x.with("term(6, 2, 12)", "term(6, 3, 13)");
        x.refusesUnify("unify(8, 9)", STATE, 1).refusesUnify("unify(9, 8)", STATE, 1);
        x.refusesUnify("unify(11, 13)", STATE, 2).due("unify(14, 15)", 2).due("undo(1)", 0);
        x.due("unify(2, 0)", 1).refusesUnify("unify(11, 13)", STATE, 2).refusesUnify("unify(8, 9)", STATE, 1);
        x.due("unify(11, 12)", 1).refusesUnify("unify(8, 9)", STATE, 1).refusesUnify("unify(13, 11)", STATE, 2);
        x.due("count(1)", 2).due("undo(2)", 0).due("count(2)", 4);
    }

    /** The document does not say which is told; the wrong argument stands first in its text. */
    private static void wrongNodeBesideTwenty() {
        run("variable()").times(20, "unify(0, 0)").refusesUnify("unify(0, 0)", STATE, 0)
            .refusesUnify("unify(1, 0)", ARGUMENT, 3).refusesUnify("unify(0, 0)", STATE, 0)
            .refusesUnify("unify(0, -1)", ARGUMENT, 3).due("count(1)", 20);
    }

    // ---- Promise 5 ----

    private static void testWhy() {
        test("5: 0: no call was made", BoundaryTest::whyBeforeAnyCall);
        test("5: 0: it did not", BoundaryTest::whyAfterAccepted);
        test("5: 0: there were 20 equations", BoundaryTest::whyBesideTwenty);
        test("5: 1: a clash", BoundaryTest::whyClash);
        test("5: 2: a loop", BoundaryTest::whyLoop);
        test("5: 3: s or t was no node", BoundaryTest::whyNoNode);
        test("5: the latest call of unify()", BoundaryTest::whyOfTheLatest);
    }

    /** A variable 0, a term 1 of it, the constants 2 and 3: a loop is unify(0, 1), a clash unify(2, 3). */
    private static Run four() {
        return run("variable()", "term(1, 0, -1)", "term(2, -1, -1)", "term(3, -1, -1)");
    }

    private static void whyBeforeAnyCall() {
        new Run().asked("why()", 0).refuses("size(0)", ARGUMENT).refuses("undo(1)", ARGUMENT).asked("why()", 0);
        four().asked("why()", 0).due("undo(0)", 0).asked("why()", 0);
    }

    private static void whyAfterAccepted() {
        four().due("unify(2, 2)", 0).asked("why()", 0).refusesUnify("unify(2, 3)", STATE, 1)
            .due("unify(2, 2)", 0).asked("why()", 0).refusesUnify("unify(0, 1)", STATE, 2)
            .due("unify(0, 2)", 1).asked("why()", 0).refusesUnify("unify(4, 4)", ARGUMENT, 3)
            .due("unify(0, 2)", 0).asked("why()", 0);
    }

    private static void whyBesideTwenty() {
        String[][] before = {{"unify(2, 3)", STATE, "1"}, {"unify(0, 1)", STATE, "2"}, {"unify(4, 0)", ARGUMENT, "3"}};
        for (String[] earlier : before) {
            Run x = four().times(19, "unify(1, 1)").refusesUnify(earlier[0], earlier[1], number(earlier[2]));
            x.due("unify(1, 1)", 0).asked("why()", 0);
            x.refusesUnify("unify(1, 1)", STATE, 0).refusesUnify("unify(2, 3)", STATE, 0);
            x.refusesUnify("unify(0, 1)", STATE, 0);
            x.due("undo(1)", 19).asked("why()", 0).refusesUnify("unify(2, 3)", STATE, 1);
        }
        four().times(20, "unify(1, 1)").refusesUnify("unify(4, 0)", ARGUMENT, 3).refusesUnify("unify(2, 3)", STATE, 0);
    }

    private static void whyClash() {
        Run x = four().with("term(4, 0, 2)", "term(4, 1, 3)", "term(4, 2, 0)", "term(4, 3, 1)");
        x.refusesUnify("unify(2, 3)", STATE, 1).asked("why()", 1).refusesUnify("unify(1, 2)", STATE, 1);
        // A loop stands beside the clash, before it and after it; with infinite terms too there is none.
        x.refusesUnify("unify(4, 5)", STATE, 1).refusesUnify("unify(6, 7)", STATE, 1);
        // And here, with the same symbols, there is neither: 2 is put for the variable.
        x.due("unify(4, 6)", 1).asked("why()", 0).due("undo(1)", 0);
    }

    private static void whyLoop() {
        Run x = four().with("term(1, 1, -1)", "term(5, 0, 0)", "term(5, 1, 4)", "variable()", "term(1, 7, -1)");
        x.refusesUnify("unify(0, 1)", STATE, 2).asked("why()", 2).refusesUnify("unify(1, 0)", STATE, 2);
        x.refusesUnify("unify(0, 4)", STATE, 2).refusesUnify("unify(1, 4)", STATE, 2);
        x.refusesUnify("unify(5, 6)", STATE, 2).due("unify(0, 8)", 1).asked("why()", 0);
        x.refusesUnify("unify(7, 1)", STATE, 2).refusesUnify("unify(0, 7)", STATE, 2).due("unify(7, 2)", 1);
        x.asked("why()", 0).refusesUnify("unify(0, 7)", STATE, 1);
    }

    private static void whyNoNode() {
        Run x = four().refusesUnify("unify(4, 0)", ARGUMENT, 3).due("unify(3, 3)", 0).asked("why()", 0);
        x.refusesUnify("unify(0, 4)", ARGUMENT, 3).due("unify(0, 0)", 0).asked("why()", 0);
        x.refusesUnify("unify(-1, 0)", ARGUMENT, 3).refusesUnify("unify(2, 3)", STATE, 1);
        x.refusesUnify("unify(0, -1)", ARGUMENT, 3).refusesUnify("unify(-1, -1)", ARGUMENT, 3).asked("why()", 3);
        x.due("variable()", 4).asked("why()", 3).due("unify(4, 0)", 1).asked("why()", 0);
    }

    private static void whyOfTheLatest() {
        Run x = four().refusesUnify("unify(2, 3)", STATE, 1).refusesUnify("unify(0, 1)", STATE, 2);
        x.refusesUnify("unify(9, 0)", ARGUMENT, 3).refusesUnify("unify(0, 1)", STATE, 2);
        x.refusesUnify("unify(2, 3)", STATE, 1);
        // Only unify() changes it: no other call, accepted or refused.
        x.asked("same(0, 0)", true).asked("leader(0)", 0).asked("size(1)", 2).asked("depth(1)", 2);
        x.asked("variables(1)", 1).asked("at(1, 1)", -1).asked("matches(0, 1)", true).asked("common(0, 1)", 1);
        x.asked("count(0)", 4).asked("undo(0)", 0).refuses("count(3)", ARGUMENT).refuses("undo(1)", ARGUMENT);
        x.refuses("same(0, 9)", ARGUMENT).refuses("at(0, 1)", BOUNDS).refuses("term(10, 0, 0)", ARGUMENT);
        x.due("variable()", 4).due("why()", 1).due("term(1, 4, -1)", 5).due("why()", 1);
    }

    // ---- Promise 6 ----

    private static void testUndo() {
        test("6: The latest n equations are taken away", BoundaryTest::latestTakenAway);
        test("6: how many are left", BoundaryTest::howManyAreLeft);
        test("6: why() stays", BoundaryTest::whyStays);
        test("6: Illegal argument: n is below 0", BoundaryTest::undoBelowNone);
        test("6: Illegal argument: there are fewer", BoundaryTest::undoMoreThanThere);
        test("6: nodes made since stay", BoundaryTest::undoKeepsNodes);
    }

    private static void latestTakenAway() {
        String[] nodes = {
            "variable()", "variable()", "variable()", "term(1, -1, -1)", "term(2, 0, 1)", "term(2, 1, 2)",
        };
        String[] equations = {"unify(4, 5)", "unify(0, 0)", "unify(2, 3)", "unify(4, 5)"};
        for (int n = 0; n <= equations.length; n++) {
            Run all = run(nodes).with(equations).due(call("undo", n), equations.length - n);
            Run fewer = run(nodes);
            for (int i = 0; i < equations.length - n; i++) {
                fewer.with(equations[i]);
            }
            all.looksLike(fewer.picture(), "undo against never asked");
            fewer.looksLike(all.picture(), "never asked against undo");
        }
    }

    private static void howManyAreLeft() {
        Run x = variables(21);
        for (int i = 0; i < 20; i++) {
            x.due(call("unify", i, i + 1), 1);
        }
        x.asked("undo(0)", 20).due("undo(1)", 19).due("same(18, 19)", true).due("same(19, 20)", false);
        x.due("undo(18)", 1).due("same(0, 1)", true).due("same(1, 2)", false).due("count(2)", 20);
        x.asked("undo(0)", 1).due("undo(1)", 0).due("same(0, 1)", false).due("count(2)", 21);
        x.asked("undo(0)", 0).times(20, "unify(0, 1)").due("undo(20)", 0).due("count(1)", 0);
    }

    private static void whyStays() {
        String[][] latest = {
            {"unify(1, 1)", "0", "0"}, {"unify(2, 3)", STATE, "1"},
            {"unify(0, 1)", STATE, "2"}, {"unify(0, 4)", ARGUMENT, "3"},
        };
        for (String[] each : latest) {
            Run x = four().due("unify(1, 1)", 0).due(each[0], each[1]).due("why()", each[2]);
            x.asked("undo(0)", each[2].equals("0") ? 2 : 1).refuses("undo(-1)", ARGUMENT).refuses("undo(3)", ARGUMENT);
            x.accepts("undo(1)").due("why()", each[2]);
        }
        // The equations that made the clash are gone, and why() tells of it still.
        four().due("unify(0, 2)", 1).refusesUnify("unify(0, 3)", STATE, 1).due("undo(1)", 0).due("why()", 1)
            .due("unify(0, 3)", 1).due("why()", 0);
        four().times(20, "unify(1, 1)").refusesUnify("unify(2, 3)", STATE, 0).due("undo(20)", 0).due("why()", 0);
    }

    private static void undoBelowNone() {
        Run x = four().refuses("undo(-1)", ARGUMENT).asked("undo(0)", 0).due("unify(0, 2)", 1);
        x.refuses("undo(-1)", ARGUMENT).refuses("undo(-2)", ARGUMENT).refuses(call("undo", LEAST), ARGUMENT);
        x.asked("undo(0)", 1).due("unify(1, 1)", 0).refuses("undo(-1)", ARGUMENT).due("undo(2)", 0);
    }

    private static void undoMoreThanThere() {
        Run x = four().refuses("undo(1)", ARGUMENT).due("unify(0, 2)", 1).refuses("undo(2)", ARGUMENT);
        x.due("undo(1)", 0).refuses("undo(1)", ARGUMENT).times(20, "unify(0, 2)").refuses("undo(21)", ARGUMENT);
        x.refuses(call("undo", MOST), ARGUMENT).due("undo(20)", 0).refuses("undo(20)", ARGUMENT);
        // A refused equation is none that could be taken away.
        x.refusesUnify("unify(2, 3)", STATE, 1).refuses("undo(1)", ARGUMENT);
        x.due("unify(0, 3)", 1).refusesUnify("unify(0, 2)", STATE, 1).refuses("undo(2)", ARGUMENT).due("undo(1)", 0);
    }

    private static void undoKeepsNodes() {
        Run x = run("variable()", "term(1, -1, -1)").due("unify(0, 1)", 1).due("variable()", 2);
        x.due("term(2, 2, 0)", 3).due("unify(2, 0)", 1).due("at(3, 1)", 3).due("at(3, 2)", 3);
        x.due("undo(1)", 1).due("count(0)", 4).due("at(3, 1)", -3).due("at(3, 2)", 3);
        x.due("undo(1)", 0).due("count(0)", 4).due("at(3, 1)", -3).due("at(3, 2)", -1).due("count(2)", 2);
        x.due("variable()", 4);
    }

    // ---- Promise 7 ----

    private static void testCount() {
        test("7: How many nodes there are (what = 0)", BoundaryTest::countOfNodes);
        test("7: equations (1)", BoundaryTest::countOfEquations);
        test("7: free variables that stand for themselves (2)", BoundaryTest::countOfFreeVariables);
        test("7: Illegal argument: what is none of these", BoundaryTest::countOfNothing);
    }

    private static void countOfNodes() {
        Run x = new Run().asked("count(0)", 0).due("term(0, -1, -1)", 0).asked("count(0)", 1);
        x.times(38, "variable()").due("count(0)", 39).due("variable()", 39).due("count(0)", 40);
        x.refuses("variable()", STATE).refuses("term(0, 0, 0)", STATE).due("count(0)", 40);
    }

    private static void countOfEquations() {
        Run x = four().asked("count(1)", 0).refusesUnify("unify(2, 3)", STATE, 1).asked("count(1)", 0);
        x.due("unify(0, 0)", 0).asked("count(1)", 1).times(18, "unify(0, 2)").due("count(1)", 19);
        x.due("unify(0, 2)", 0).due("count(1)", 20).refusesUnify("unify(0, 2)", STATE, 0).due("count(1)", 20);
        x.due("undo(1)", 19).due("count(1)", 19).due("undo(19)", 0).due("count(1)", 0);
    }

    private static void countOfFreeVariables() {
        new Run().times(40, "term(0, -1, -1)").asked("count(2)", 0);
        Run x = variables(40).asked("count(2)", 40).due("unify(39, 0)", 1).asked("count(2)", 39).due("undo(1)", 0);
        x.asked("count(2)", 40);
        Run y = run("variable()", "variable()", "term(0, -1, -1)", "term(1, 1, -1)").asked("count(2)", 2);
        y.due("unify(0, 3)", 1).asked("count(2)", 1).due("unify(1, 2)", 1).asked("count(2)", 0);
        y.due("variable()", 4).asked("count(2)", 1).due("undo(1)", 1).asked("count(2)", 2);
        y.due("undo(1)", 0).asked("count(2)", 3);
    }

    private static void countOfNothing() {
        Run x = four();
        for (int what : new int[] {-1, 3, -2, 4, LEAST, MOST}) {
            x.refuses(call("count", what), ARGUMENT);
        }
        x.asked("count(0)", 4).asked("count(1)", 0).asked("count(2)", 1);
        new Run().refuses("count(-1)", ARGUMENT).refuses("count(3)", ARGUMENT).asked("count(0)", 0);
    }

    // ---- s or t is no node, promises 8 to 15 ----

    private static void testNodesAsked() {
        test("8: Illegal argument: s or t is no node", () -> needsTwoNodes("same"));
        test("9: Illegal argument: s is no node", () -> needsNode("leader"));
        test("10: Illegal argument: s is no node", () -> needsNode("size"));
        test("11: Illegal argument: s is no node", () -> needsNode("depth"));
        test("12: Illegal argument: s is no node", () -> needsNode("variables"));
        test("13: Illegal argument: s is no node", () -> needsNode("at", 0));
        test("13: Illegal argument: s is no node, whatever i is", BoundaryTest::noNodeAndNoPlace);
        test("14: Illegal argument: s or t is no node", () -> needsTwoNodes("matches"));
        test("15: Illegal argument: s or t is no node", () -> needsTwoNodes("common"));
    }

    private static long[] before(int s, long... rest) {
        long[] all = new long[rest.length + 1];
        all[0] = s;
        System.arraycopy(rest, 0, all, 1, rest.length);
        return all;
    }

    private static void needsNode(String name, long... rest) {
        for (int nodes : new int[] {0, 1, 3, 39, 40}) {
            Run x = variables(nodes);
            for (int s : new int[] {-1, nodes, -2, nodes + 1, LEAST, MOST}) {
                x.refuses(call(name, before(s, rest)), ARGUMENT);
            }
            if (nodes > 0) {
                x.accepts(call(name, before(0, rest))).accepts(call(name, before(nodes - 1, rest)));
            }
        }
    }

    private static void needsTwoNodes(String name) {
        for (int nodes : new int[] {0, 1, 3, 39, 40}) {
            Run x = variables(nodes);
            for (int s : new int[] {-1, nodes, -2, nodes + 1, LEAST, MOST}) {
                x.refuses(call(name, s, 0), ARGUMENT).refuses(call(name, 0, s), ARGUMENT);
                x.refuses(call(name, s, s), ARGUMENT);
            }
            if (nodes > 0) {
                x.accepts(call(name, 0, nodes - 1)).accepts(call(name, nodes - 1, 0));
            }
        }
    }

    private static void noNodeAndNoPlace() {
        Run x = four().refuses("at(4, -1)", ARGUMENT).refuses("at(4, 1)", ARGUMENT).refuses("at(-1, -1)", ARGUMENT);
        x.refuses(call("at", 4, Long.MAX_VALUE), ARGUMENT).refuses(call("at", -1, Long.MIN_VALUE), ARGUMENT);
        x.refuses("at(3, -1)", BOUNDS).refuses("at(3, 1)", BOUNDS).asked("at(3, 0)", 9);
    }

    // ---- Promises 8 to 12 ----

    private static void testValues() {
        test("8: Whether two nodes have the same value", BoundaryTest::sameOrNot);
        test("9: The least number of a node with the same value", BoundaryTest::leastNode);
        test("10: How many, each as often as it stands there", BoundaryTest::asOftenAsItStands);
        test("10: sizes beyond an int", BoundaryTest::largeSizes);
        test("11: How many on the longest way down, to a part without arguments", BoundaryTest::longestWay);
        test("12: How many different variables", BoundaryTest::differentVariables);
    }

    private static void sameOrNot() {
        Run x = run("variable()", "variable()", "term(1, 0, 1)", "term(1, 1, 0)", "term(2, -1, -1)", "term(3, -1, -1)");
        x.asked("same(0, 0)", true).asked("same(0, 1)", false).asked("same(2, 3)", false).asked("same(4, 5)", false);
        x.due("unify(0, 4)", 1).asked("same(0, 4)", true).asked("same(2, 3)", false).due("unify(1, 4)", 1);
        x.asked("same(2, 3)", true).asked("same(0, 1)", true).due("undo(1)", 1).asked("same(3, 2)", false);
        x.due("unify(1, 0)", 1).asked("same(3, 2)", true).asked("same(1, 4)", true).asked("same(1, 5)", false);
    }

    private static void leastNode() {
        Run x = run("term(1, -1, -1)", "variable()", "term(2, 1, -1)", "variable()", "term(2, 3, -1)");
        x.with("term(1, -1, -1)");
        x.asked("leader(0)", 0).asked("leader(5)", 0).asked("leader(4)", 4).asked("leader(3)", 3);
        x.due("unify(3, 1)", 1).asked("leader(3)", 1).asked("leader(4)", 2).asked("leader(2)", 2);
        x.due("unify(1, 5)", 1).asked("leader(3)", 0).asked("leader(1)", 0).asked("leader(4)", 2);
        x.due("undo(2)", 0).due("unify(1, 4)", 1).asked("leader(4)", 1).asked("leader(1)", 1).asked("leader(2)", 2);
        Run y = new Run().times(40, "term(0, -1, -1)").asked("leader(39)", 0);
        y.due("unify(39, 38)", 0).asked("leader(39)", 0);
        variables(40).asked("leader(39)", 39).due("unify(39, 38)", 1).asked("leader(39)", 38).asked("leader(38)", 38);
    }

    private static void asOftenAsItStands() {
        Run x = run("variable()", "term(1, -1, -1)", "term(2, 0, 0)", "term(2, 2, 0)", "variable()", "term(3, 4, 4)");
        x.asked("size(0)", 1).asked("size(1)", 1).asked("size(2)", 3).asked("size(3)", 5).asked("size(5)", 3);
        x.due("unify(4, 3)", 1).asked("size(4)", 5).asked("size(5)", 11).due("unify(0, 1)", 1).asked("size(5)", 11);
        x.due("undo(2)", 0).asked("size(5)", 3).due("unify(0, 5)", 1).asked("size(2)", 7).asked("size(3)", 11);
    }

    private static void largeSizes() {
        Run x = tower("variable()", 40);
        for (int s = 0; s < 40; s++) {
            x.due(call("size", s), (1L << s + 1) - 1);
        }
        // Thirteen variables, each bound to the next one's term of two, and the towers above them.
        Run y = variables(14);
        for (int i = 0; i < 26; i++) {
            int below = i < 13 ? i + 1 : i == 13 ? 0 : i + 13;
            y.with(call("term", i < 13 ? 1 : 2, below, below));
        }
        for (int i = 0; i < 13; i++) {
            y.due(call("unify", i, 14 + i), 1);
        }
        y.due("size(0)", (1L << 14) - 1).due("size(39)", (1L << 27) - 1).due("depth(39)", 27).due("variables(39)", 1);
    }

    private static void longestWay() {
        Run x = run("variable()", "term(1, -1, -1)", "term(2, 0, -1)", "term(3, 2, 1)", "term(3, 1, 2)");
        x.with("term(4, 1, -1)");
        x.asked("depth(0)", 1).asked("depth(1)", 1).asked("depth(2)", 2).asked("depth(3)", 3).asked("depth(4)", 3);
        x.due("unify(0, 5)", 1).asked("depth(0)", 2).asked("depth(4)", 4).due("undo(1)", 0).asked("depth(4)", 3);
        Run y = tower("term(0, -1, -1)", 40);
        for (int s = 0; s < 40; s++) {
            y.due(call("depth", s), s + 1);
        }
        Run z = run("variable()");
        for (int i = 1; i < 40; i++) {
            z.with(call("term", 1, i - 1, -1));
        }
        z.due("depth(39)", 40).due("size(39)", 40).due("depth(38)", 39);
    }

    private static void differentVariables() {
        Run x = four().asked("variables(0)", 1).asked("variables(1)", 1).asked("variables(2)", 0);
        x.due("unify(0, 3)", 1).asked("variables(0)", 0).asked("variables(1)", 0);
        Run y = variables(20).with("term(1, 18, 19)");
        for (int i = 17; i >= 0; i--) {
            y.with(call("term", 1, i, 37 - i));
        }
        y.with("term(2, 38, 38)");
        y.due("count(0)", 40).due("variables(38)", 20).due("variables(37)", 19).due("variables(20)", 2);
        y.due("variables(39)", 20).due("unify(0, 19)", 1).due("variables(38)", 19).due("variables(20)", 2);
        y.due("unify(18, 19)", 1).due("variables(38)", 18).due("variables(20)", 1).due("undo(2)", 0);
        y.due("variables(38)", 20);
        variablesOfHighNumbers();
    }

    /** Numbers that are 32 apart, and 31, would be one or many in the bits of an int. */
    private static void variablesOfHighNumbers() {
        Run x = variables(40);
        for (int s = 0; s < 40; s++) {
            x.due(call("variables", s), 1);
        }
        variables(39).with("term(1, 6, 38)").due("variables(39)", 2).due("unify(38, 37)", 1).due("variables(39)", 2)
            .due("unify(37, 6)", 1).due("variables(39)", 1);
        variables(38).with("term(1, 0, 32)", "term(1, 38, 31)").due("variables(38)", 2).due("variables(39)", 3);
    }

    // ---- Promise 13 ----

    private static void testAt() {
        test("13: The i-th (from 0)", BoundaryTest::fromZero);
        test("13: 3 * symbol and the number of its arguments", BoundaryTest::writtenSymbols);
        test("13: -1 less the number of the variable", BoundaryTest::writtenVariables);
        test("13: index out of bounds: it has no i-th one", BoundaryTest::noSuchPlace);
        test("13: places beyond an int", BoundaryTest::farPlaces);
    }

    private static void fromZero() {
        Run x = run("variable()", "variable()", "term(1, 0, -1)", "term(2, 2, 1)", "term(3, -1, -1)", "term(4, 3, 4)");
        int[] written = {14, 8, 4, -1, -2, 9};
        for (int i = 0; i < written.length; i++) {
            x.asked(call("at", 5, i), written[i]);
        }
        x.due("unify(1, 4)", 1).asked("at(5, 4)", 9).asked("at(5, 5)", 9);
        x.due("unify(0, 4)", 1).asked("at(5, 3)", 9).asked("at(0, 0)", 9);
    }

    private static void writtenSymbols() {
        Run x = run("term(0, -1, -1)", "term(0, 0, -1)", "term(0, 0, 0)", "term(9, -1, -1)", "term(9, 0, -1)");
        x.with("term(9, 0, 0)");
        int[] first = {0, 1, 2, 27, 28, 29};
        for (int s = 0; s < first.length; s++) {
            x.asked(call("at", s, 0), first[s]);
        }
    }

    private static void writtenVariables() {
        Run x = variables(40);
        for (int s = 0; s < 40; s++) {
            x.due(call("at", s, 0), -1 - s);
        }
        run("term(0, -1, -1)", "variable()", "variable()").due("at(1, 0)", -2).due("at(2, 0)", -3)
            .due("unify(1, 2)", 1).due("at(2, 0)", -2).due("unify(2, 0)", 1).due("at(1, 0)", 0);
    }

    private static void noSuchPlace() {
        Run x = run("variable()", "term(1, 0, -1)", "term(2, 1, 0)", "term(3, -1, -1)");
        int[] sizes = {1, 2, 4, 1};
        for (int s = 0; s < sizes.length; s++) {
            x.asked(call("at", s, sizes[s] - 1), s == 3 ? 9 : -1).refuses(call("at", s, sizes[s]), BOUNDS);
            x.refuses(call("at", s, -1), BOUNDS).refuses(call("at", s, sizes[s] + 1), BOUNDS);
            x.refuses(call("at", s, Long.MIN_VALUE), BOUNDS).refuses(call("at", s, Long.MAX_VALUE), BOUNDS);
            x.refuses(call("at", s, INT_RANGE), BOUNDS).refuses(call("at", s, -INT_RANGE), BOUNDS);
        }
        // The bound moves with the value.
        x.refuses("at(0, 1)", BOUNDS).with("term(4, 3, 3)").due("unify(0, 4)", 1).asked("at(0, 2)", 9);
        x.refuses("at(0, 3)", BOUNDS).asked("at(2, 7)", 9).refuses("at(2, 8)", BOUNDS).due("undo(1)", 0);
        x.refuses("at(0, 1)", BOUNDS).refuses("at(2, 4)", BOUNDS);
    }

    private static void farPlaces() {
        Run x = tower("variable()", 40);
        long size = (1L << 40) - 1;
        x.due("at(39, 0)", 29).due("at(39, 1)", 26).due("at(39, 38)", 5).due("at(39, 39)", -1).due("at(39, 40)", -1);
        x.due("at(39, 41)", 5).due(call("at", 39, 1L << 39), 26).due(call("at", 39, (1L << 39) - 1), -1);
        x.due(call("at", 39, size - 1), -1).refuses(call("at", 39, size), BOUNDS).refuses("at(39, -1)", BOUNDS);
        // As in an int, 2^32 would be 0: the first of all, and not the last but one of the node 31.
        x.due(call("at", 31, INT_RANGE - 2), -1).refuses(call("at", 31, INT_RANGE - 1), BOUNDS);
        x.refuses(call("at", 31, INT_RANGE), BOUNDS).due(call("at", 32, INT_RANGE), 5);
        x.due(call("at", 30, MOST - 1L), -1).refuses(call("at", 30, MOST), BOUNDS).due(call("at", 31, MOST + 1L), 2);
    }

    // ---- Promise 14 ----

    private static void testMatches() {
        test("14: Whether terms can be put for the variables in the value of s", BoundaryTest::putForVariables);
        test("14: what stands in t's value stays as it is", BoundaryTest::staysAsItIs);
        test("14: one term for a variable, wherever it stands", BoundaryTest::oneTermForAVariable);
        test("14: long values", BoundaryTest::matchesOfTowers);
    }

    private static void putForVariables() {
        Run x = run("variable()", "term(1, -1, -1)", "term(2, -1, -1)", "term(3, 0, -1)", "term(3, 1, -1)");
        x.with("term(3, 3, -1)");
        x.asked("matches(0, 1)", true).asked("matches(0, 4)", true).asked("matches(1, 1)", true);
        x.asked("matches(1, 2)", false).asked("matches(1, 4)", false).asked("matches(3, 4)", true);
        x.asked("matches(3, 1)", false).asked("matches(4, 4)", true).asked("matches(5, 4)", false);
        x.due("unify(0, 1)", 1).asked("matches(0, 1)", true).asked("matches(0, 2)", false).asked("matches(3, 4)", true);
        x.asked("matches(3, 5)", false).due("undo(1)", 0).asked("matches(3, 5)", true);
    }

    private static void staysAsItIs() {
        Run x = run("variable()", "variable()", "term(1, -1, -1)", "term(2, 0, 1)", "term(2, 1, 0)", "term(3, 0, -1)");
        x.with("term(2, 0, 0)", "term(2, 0, 2)", "term(2, 2, 1)", "term(2, 5, 0)");
        x.asked("matches(0, 1)", true).asked("matches(2, 0)", false).asked("matches(5, 0)", false);
        x.asked("matches(0, 5)", true).asked("matches(3, 4)", true).asked("matches(4, 3)", true);
        x.asked("matches(3, 6)", true).asked("matches(6, 3)", false).asked("matches(7, 8)", false);
        x.asked("matches(8, 7)", false).asked("matches(3, 9)", true).asked("matches(6, 9)", false);
        x.asked("matches(7, 3)", false).asked("matches(3, 7)", true);
    }

    private static void oneTermForAVariable() {
        Run x = run("variable()", "variable()", "term(1, -1, -1)", "term(1, -1, -1)", "term(2, -1, -1)");
        x.with("term(3, 0, 0)");
        x.with("term(3, 2, 3)", "term(3, 2, 4)", "term(3, 1, 1)", "term(4, 0, -1)", "term(3, 9, 0)");
        x.with("term(4, 2, -1)", "term(3, 11, 3)", "term(3, 11, 4)", "term(3, 9, 9)");
        x.asked("matches(5, 6)", true).asked("matches(5, 7)", false).asked("matches(5, 8)", true);
        x.asked("matches(8, 5)", true).asked("matches(10, 12)", true).asked("matches(10, 13)", false);
        x.asked("matches(5, 14)", true).asked("matches(5, 10)", false).asked("matches(14, 5)", false);
        x.due("unify(0, 1)", 1).asked("matches(5, 8)", true).asked("matches(10, 12)", true);
    }

    private static void matchesOfTowers() {
        Run x = tower("variable()", 40);
        x.due("matches(39, 39)", true).due("matches(29, 39)", true).due("matches(39, 29)", false);
        x.due("matches(38, 39)", false).due("matches(0, 39)", true).due("matches(39, 0)", false);
        Run y = run("variable()", "term(1, -1, -1)");
        for (int i = 2; i < 40; i++) {
            y.with(call("term", 2, i - 2, i - 2));
        }
        y.due("matches(38, 39)", true).due("matches(39, 38)", false).due("matches(36, 39)", true);
        y.due("matches(38, 37)", false).due("unify(0, 1)", 1);
        y.due("matches(39, 38)", true).due("matches(36, 39)", false);
    }

    // ---- Promise 15 ----

    private static void testCommon() {
        test("15: the least general term from which both come", BoundaryTest::leastGeneral);
        test("15: symbols and variables, each as often as it stands there", BoundaryTest::commonAsOften);
        test("15: long values", BoundaryTest::commonOfTowers);
    }

    private static void leastGeneral() {
        Run x = run("variable()", "variable()", "term(1, -1, -1)", "term(2, -1, -1)", "term(3, 2, 3)", "term(3, 2, 2)");
        x.with("term(3, 0, 3)", "term(4, 2, -1)", "term(3, 7, 3)");
        x.asked("common(0, 0)", 1).asked("common(0, 1)", 1).asked("common(2, 3)", 1).asked("common(0, 4)", 1);
        x.asked("common(4, 4)", 3).asked("common(4, 5)", 3).asked("common(4, 7)", 1).asked("common(4, 6)", 3);
        x.asked("common(8, 8)", 4).asked("common(8, 4)", 3).asked("common(4, 8)", 3).asked("common(8, 6)", 3);
        x.due("unify(0, 7)", 1).asked("common(8, 6)", 4).asked("common(0, 7)", 2).due("undo(1)", 0);
        x.asked("common(8, 6)", 3);
    }

    private static void commonAsOften() {
        Run x = run("variable()", "variable()", "term(1, -1, -1)", "term(2, 0, 0)", "term(2, 1, 1)", "term(2, 2, 2)");
        x.with("term(3, 3, 3)", "term(3, 4, 4)", "term(3, 5, 4)", "term(3, 5, 2)");
        x.asked("common(3, 4)", 3).asked("common(3, 5)", 3).asked("common(6, 7)", 7).asked("common(6, 6)", 7);
        x.asked("common(8, 6)", 7).asked("common(9, 6)", 5).asked("common(9, 9)", 5).asked("common(6, 9)", 5);
        x.due("unify(0, 5)", 1).asked("common(6, 7)", 7).asked("common(6, 6)", 15).asked("common(0, 3)", 3);
    }

    private static void commonOfTowers() {
        Run x = tower("variable()", 40);
        x.due("common(39, 39)", (1L << 40) - 1).due("common(39, 29)", (1L << 30) - 1);
        x.due("common(29, 39)", (1L << 30) - 1).due("common(39, 38)", 1).due("common(39, 0)", 1);
        Run y = run("variable()", "term(1, -1, -1)");
        for (int i = 2; i < 40; i++) {
            y.with(call("term", 2, i - 2, i - 2));
        }
        y.due("common(38, 39)", (1L << 20) - 1).due("common(38, 37)", (1L << 19) - 1).due("unify(0, 39)", 1);
        y.due("common(38, 38)", (1L << 39) - 1).due("common(38, 39)", (1L << 20) - 1);
    }
}
