/**
 * The sentences of promises 1 to 27 on what is returned that name a boundary case, promise by promise. What the
 * promises refuse is tested in RefusedCallsTest.
 */
public final class PromisesTest {
    private static final int MIN = Integer.MIN_VALUE;
    private static final int MAX = Integer.MAX_VALUE;
    private static final String NSEE = "NoSuchElementException";
    /** Thinning is seen here: the thing is let go of behind a number that only the plain program has. */
    private static final String SEEN = "(l (o 0) (; (; (n 1) WHAT) (B)))";
    private static final String SET_ZERO = "(: (g 0) (n 5))";

    public static void main(String[] args) {
        aNewObject();
        numbersOfNodes();
        bodiesBefore();
        numbersBefore();
        thinnedKinds();
        sizes();
        sizesThatGoRound();
        stepsThatAreAllowed();
        endings();
        printedValues();
        deaths();
        stepsOfRuns();
        variablesBehind();
        elementsBehind();
        loans();
        thingsOfRuns();
        once();
        ranks();
        allSteps();
        shares();
        means();
        consistentWithoutMainNode();
        noRunByItself();
        notConsistent();
        consistentIfOver();
        callsOfOneObject();
        Checks.end("PromisesTest");
    }

    private static void aNewObject() {
        Checks.sentence("Creates a program without nodes.");
        Contextwright x = new Contextwright();
        Checks.due("nodes", x.nodes(), 0);
        Checks.dueCall("size", () -> x.size(0), "IndexOutOfBoundsException");
        x.addNode('n', 1, 0, 0);
        Checks.due("nodes of another object", new Contextwright().nodes(), 0);
    }

    private static void numbersOfNodes() {
        Checks.sentence("Returns the number of the node.");
        Contextwright x = new Contextwright();
        for (int i = 0; i < 48; i++) {
            Checks.due("nodes ahead of " + i, x.nodes(), i);
            Checks.dueCall("a refused node", () -> x.addNode('n', 1000, 0, 0), "IllegalArgumentException");
            Checks.due("number of the node", x.addNode('n', i, 0, 0), i);
        }
        Checks.sentence("Returns the number of nodes.");
        Checks.dueCall("a node too many", () -> x.addNode('n', 1, 0, 0), "IllegalStateException");
        Checks.due("nodes when full", x.nodes(), 48);
    }

    private static void bodiesBefore() {
        Contextwright x = new Contextwright();
        x.addNode('n', 1, 0, 0);
        x.addNode('n', 2, 0, 0);
        Checks.sentence("the sub, 0 to 3");
        Checks.dueCall("behind the last", () -> x.setSub(4, 0), "IndexOutOfBoundsException");
        Checks.dueCall("ahead of the first", () -> x.setSub(-1, 0), "IndexOutOfBoundsException");
        Checks.sentence("the node, or -1");
        Checks.dueCall("no such body", () -> x.setSub(0, 2), "IndexOutOfBoundsException");
        Checks.dueCall("less than none", () -> x.setSub(0, -2), "IndexOutOfBoundsException");
        Checks.dueCall("no such main node", () -> x.setMain(2), "IndexOutOfBoundsException");
        Checks.dueCall("less than no main node", () -> x.setMain(-2), "IndexOutOfBoundsException");
        Checks.sentence("Returns the body before, or -1.");
        for (int sub = 0; sub < 4; sub++) {
            Checks.due("at first", x.setSub(sub, 0), -1);
            Checks.due("the node 0", x.setSub(sub, 1), 0);
            Checks.due("the node 1", x.setSub(sub, -1), 1);
            Checks.due("none", x.setSub(sub, sub % 2), -1);
        }
        for (int sub = 0; sub < 4; sub++) {
            Checks.due("each sub has its own", x.setSub(sub, -1), sub % 2);
        }
        Checks.sentence("Returns the main node before, or -1.");
        Checks.due("at first", x.setMain(0), -1);
        Checks.due("the node 0", x.setMain(1), 0);
        Checks.due("the node 1", x.setMain(-1), 1);
        Checks.due("none", x.setMain(-1), -1);
    }

    private static void numbersBefore() {
        Contextwright x = new Contextwright();
        Checks.sentence("the package variable, 0 to 3");
        Checks.dueCall("behind the last", () -> x.setVariable(4, 1), "IndexOutOfBoundsException");
        Checks.dueCall("ahead of the first", () -> x.setVariable(-1, 1), "IndexOutOfBoundsException");
        Checks.sentence("Sets the number that a package variable has ahead of a run, 0 at first.");
        for (int variable = 0; variable < 4; variable++) {
            Checks.due("at first", x.setVariable(variable, MIN + variable), 0);
        }
        Checks.sentence("Returns the number before.");
        for (int variable = 0; variable < 4; variable++) {
            Checks.due("the least", x.setVariable(variable, MAX - variable), MIN + variable);
        }
        for (int variable = 0; variable < 4; variable++) {
            Checks.due("the greatest", x.setVariable(variable, 0), MAX - variable);
        }
    }

    private static void thinnedKinds() {
        Checks.sentence("Returns the kind that a node has in the thinned program.");
        Contextwright x = new Contextwright();
        x.addNode('w', 0, 0, 0);
        x.addNode('n', 4, 0, 0);
        for (int i = 2; i < 47; i++) {
            x.addNode(i % 2 == 0 ? ';' : 'b', i % 2 == 0 ? 0 : 1, i % 2 == 0 ? i - 1 : 0, 0);
        }
        x.addNode('b', 0, 0, 0);
        Checks.due("the first", x.thinnedKind(0), 'w');
        for (int i = 1; i < 47; i++) {
            Checks.due("node " + i, x.thinnedKind(i) + " " + x.thinnedSize(i), "n 1");
        }
        Checks.due("the last", x.thinnedKind(47) + " " + x.thinnedSize(47), "b 2");
        Checks.dueCall("behind the last", () -> x.thinnedKind(48), "IndexOutOfBoundsException");
        Checks.dueCall("ahead of the first", () -> x.thinnedKind(-1), "IndexOutOfBoundsException");
    }

    // ---- sizes

    private static void sizes() {
        Checks.sentence("with all in its parts, each as often as it stands there");
        Contextwright x = new Contextwright();
        x.addNode('x', 0, 0, 0);
        Checks.due("a node without parts", x.size(0) + " " + x.thinnedSize(0), "1 1");
        int pair = x.addNode(',', 0, 0, 0);
        Checks.due("a part twice", x.size(pair) + " " + x.thinnedSize(pair), "3 3");
        int three = x.addNode('?', pair, pair, pair);
        Checks.due("a part three times", x.size(three) + " " + x.thinnedSize(three), "10 10");
        Checks.due("a node that takes no number as a part", x.size(x.addNode('f', 1, pair, three)), 14);
        for (char kind : "mLc".toCharArray()) {
            Checks.due("with a part or none", x.size(x.addNode(kind, 1, three, 0)) + " " + x.size(x.addNode(kind, 1, -1, 0)), "11 1");
        }
        Checks.due("r with a part or none", x.size(x.addNode('r', 0, 0, 0)) + " " + x.size(x.addNode('r', -1, 0, 0)), "2 1");
        Checks.due("no part but a number", x.size(x.addNode('o', 1, 0, 0)) + " " + x.size(x.addNode('g', 1, 0, 0)), "1 1");
        int idle = x.addNode(';', 0, pair, 0);
        Checks.due("thinned to less", x.size(idle) + " " + x.thinnedSize(idle), "5 3");
        int both = x.addNode(',', idle, idle, 0);
        Checks.due("thinned to less twice", x.size(both) + " " + x.thinnedSize(both), "11 7");
    }

    /** A node whose size is the greatest int. */
    private static int addGreatest(Contextwright x) {
        int node = x.addNode('A', 0, 0, 0);
        for (int i = 1; i < 31; i++) {
            node = x.addNode(',', node, node, 0);
        }
        return node;
    }

    private static void sizesThatGoRound() {
        Checks.sentence("Returns the number of nodes, as an int that goes round.");
        Contextwright x = new Contextwright();
        int greatest = addGreatest(x);
        Checks.due("the greatest", x.size(greatest) + " " + x.thinnedSize(greatest), MAX + " " + MAX);
        int least = x.addNode('d', greatest, 0, 0);
        Checks.due("one more", x.size(least) + " " + x.thinnedSize(least), MIN + " " + MIN);
        int minusOne = x.addNode(',', greatest, greatest, 0);
        Checks.due("twice", x.size(minusOne), -1);
        int zero = x.addNode('d', minusOne, 0, 0);
        Checks.due("twice and one more", x.size(zero) + " " + x.thinnedSize(zero), "0 0");
        int one = x.addNode(',', zero, zero, 0);
        Checks.due("once more around", x.size(one), 1);
        int thinned = x.addNode(';', 0, x.addNode('n', 1, 0, 0), 0);
        int choice = x.addNode('?', thinned, minusOne, 0);
        Checks.due("a choice that goes round", x.size(choice), 4);
    }

    // ---- runs

    private static void stepsThatAreAllowed() {
        Checks.sentence("the number of steps that are allowed, 1 to 2000");
        for (boolean isThinned : new boolean[] {false, true}) {
            Contextwright x = Checks.program("(l (n 1) (A))");
            for (int steps : new int[] {1, 2, 1999, 2000}) {
                Checks.due("run " + steps, x.run(isThinned, steps) + " " + x.steps(), "l " + steps);
            }
            Checks.dueCall("run 0", () -> x.run(isThinned, 0), "IllegalArgumentException");
            Checks.dueCall("run 2001", () -> x.run(isThinned, 2001), "IllegalArgumentException");
        }
        Checks.sentence("'l' if the run is over by its steps");
        Contextwright x = ofSteps(2000, "(p (g 0))");
        Checks.due("all 2000 steps", x.run(false, 2000) + " " + x.steps() + " " + Checks.prints(x), "e 2000 0");
        x = ofSteps(2001, "(p (g 0))");
        Checks.due("a step more", x.run(false, 2000) + " " + x.steps(), "l 2000");
    }

    /** A program that ends with what is told here and needs exactly so many steps, plain, for all. */
    private static Contextwright ofSteps(int wanted, String last, String... subs) {
        String count = "(; (l (< (g 1) (n TURNS)) (: (g 1) (+ (g 1) (n 1)))) LAST)".replace("LAST", last);
        for (int turns = 249; turns > 0; turns--) {
            String main = count.replace("TURNS", "" + turns);
            Contextwright x = Checks.program(main, subs);
            if (x.run(false, 2000) == 'e' && x.steps() <= wanted) {
                int missing = wanted - x.steps();
                return Checks.program("(b ".repeat(missing) + main + ")".repeat(missing), subs);
            }
        }
        throw new IllegalStateException("no such program");
    }

    private static void endings() {
        Checks.sentence("Runs the main node, asked for none.");
        Checks.due("asked for none", Checks.ran(9, "(c 0 -1)", "(: (g 0) (- (w) (n 1)))").variable(0), -1);
        Checks.sentence("Returns 'e' if it has ended, 'd' if a value was thrown out of it");
        Contextwright x = Checks.program("(? (g 0) (d (g 0)) (p (g 0)))");
        Checks.due("ended", x.run(false, 3) + " " + x.ending(), "l l");
        Checks.due("ended", x.run(false, 4) + " " + x.ending(), "e e");
        x.setVariable(0, 7);
        Checks.due("thrown", x.run(false, 4) + " " + x.ending(), "d d");
        Checks.due("over", x.run(true, 3) + " " + x.ending(), "l l");
        x = Checks.program("(r (n 1))");
        Checks.due("left", x.run(false, 2) + " " + x.ending(), "e e");
        x = Checks.program("(v (d (n 1)))");
        Checks.due("caught", x.run(false, 9), 'e');
    }

    private static void printedValues() {
        Checks.sentence("Returns how many values the last run printed.");
        Contextwright x = Checks.program("(; (: (E (n 29)) (n 5)) (l (n 1) (p (A))))");
        Checks.due("none", x.run(false, 7) + " " + x.printed(), "l 0");
        Checks.due("thirty", x.run(false, 9) + " " + x.printed(), "l 30");
        Checks.due("very many", x.run(false, 2000) + " " + x.printed(), "l " + 30 * 664);
        Checks.sentence("the index, from 0");
        Checks.due("the first", x.printedAt(0), -1000000);
        Checks.due("the thirtieth", x.printedAt(29), 5);
        Checks.due("the last", x.printedAt(30 * 664 - 1), 5);
        int count = x.printed();
        for (int no : new int[] {-1, count, count + 1, MIN, MAX}) {
            Contextwright y = x;
            Checks.dueCall("printedAt " + no, () -> y.printedAt(no), NSEE);
        }
        x.run(true, 1);
        Checks.due("none again", x.printed(), 0);
        Contextwright z = x;
        Checks.dueCall("printedAt 0 of none", () -> z.printedAt(0), NSEE);
        x = Checks.program("(p (, (g 0) (, (g 1) (x 0))))");
        x.setVariable(0, MIN);
        x.setVariable(1, MAX);
        x.run(false, 9);
        Checks.due("the edges of an int", x.printedAt(0) + " " + x.printedAt(1) + " " + x.printedAt(2), MIN + " " + MAX + " -1000000");
    }

    private static void deaths() {
        Checks.sentence("Returns the value, as a number.");
        Contextwright x = Checks.ran(9, "(d (0))");
        Checks.due("nothing", x.ending() + " " + x.died(), "d 0");
        x = Checks.ran(9, "(; (: (g 0) (o -1)) (d (o -1)))");
        Checks.due("the thing 1", x.ending() + " " + x.died(), "d 1000001");
        x = Checks.program("(d (g 0))");
        x.setVariable(0, MIN);
        x.run(true, 2);
        Checks.due("the least", x.died(), MIN);
        Checks.sentence("also if the run was over behind that");
        Contextwright y = Checks.program("(; (: (g 0) (o 0)) (d (n 4)))", "(; (n 1) (n 2))");
        Checks.due("over ahead of it", y.run(false, 5) + " " + Checks.answer(y::died), "l " + NSEE);
        for (int steps = 6; steps <= 8; steps++) {
            Checks.due("over behind it", y.run(false, steps) + " " + Checks.answer(y::died), "l 4");
        }
        Checks.due("not over", y.run(false, 9) + " " + Checks.answer(y::died), "d 4");
        Checks.sentence("Throws `NoSuchElementException` if none was");
        y.setMain(0);
        Checks.due("a run behind it", y.run(false, 9) + " " + Checks.answer(y::died), "e " + NSEE);
    }

    private static void stepsOfRuns() {
        Checks.sentence("Returns the number of steps of the last run, those of destructors included.");
        Contextwright x = Checks.ran(99, "(; (o 0) (n 1))", "(p (n 2))");
        Checks.due("a destructor on the way", x.ending() + " " + x.steps(), "e 5");
        x = Checks.ran(99, "(: (g 0) (o 0))", "(p (n 2))");
        Checks.due("a destructor behind the main node", x.ending() + " " + x.steps(), "e 5");
        x = Checks.ran(4, "(: (g 0) (o 0))", "(p (n 2))");
        Checks.due("over in it", x.ending() + " " + x.steps(), "l 4");
        x = Checks.ran(1, "(n 1)");
        Checks.due("the fewest", x.ending() + " " + x.steps(), "e 1");
    }

    private static void variablesBehind() {
        Checks.sentence("Returns what a package variable held behind the main node of the last run, ahead of the destructors of things that were left.");
        Contextwright x = Checks.ran(99, "(; (: (g 0) (o 0)) (; (L 2 (n 9)) (: (g 3) (n 7))))", "(; (: (g 0) (n 1)) (: (g 1) (n 2)))");
        Checks.due("behind the main node", Checks.variables(x) + " " + x.destroyed(), "1000000 0 0 7 1");
        x = Checks.ran(99, "(; (o 0) (n 1))", "(; (: (g 0) (n 1)) (: (g 1) (n 2)))");
        Checks.due("behind a destructor on the way", Checks.variables(x), "1 2 0 0");
        x = Checks.program("(; (: (g 0) (n 3)) (n 4))");
        x.setVariable(0, MAX);
        x.run(false, 3);
        Checks.due("over", x.variable(0), MAX);
        x.run(false, 4);
        Checks.due("over a step later", x.variable(0), 3);
        Checks.sentence("Returns the value, as a number.");
        x = Checks.ran(99, "(; (: (, (g 0) (g 1)) (, (o -1) (o -1))) (; (: (g 2) (0)) (; (: (g 3) (o -1)) (k (g 3)))))");
        Checks.due("things, nothing and what is gone", Checks.variables(x), "1000000 1000001 0 0");
    }

    private static void elementsBehind() {
        Checks.sentence("Returns the number of elements of the array then.");
        Checks.due("none", Checks.ran(9, "(n 1)").elements(), 0);
        Checks.due("one", Checks.ran(9, "(p (E (n 0)))").elements(), 1);
        Checks.due("all", Checks.ran(9, "(p (E (n 29)))").elements(), 30);
        Contextwright x = Checks.ran(99, "(; (: (g 0) (o 0)) (: (A) (, (n 1) (n 2))))", "(: (A) (0))");
        Checks.due("ahead of the destructors", x.elements() + " " + x.destroyed(), "2 1");
        Checks.sentence("Returns what an element of the array held then.");
        Checks.due("ahead of the destructors", x.element(0) + " " + x.element(1), "1 2");
        Contextwright y = x;
        Checks.dueCall("behind the last", () -> y.element(2), NSEE);
        Checks.dueCall("ahead of the first", () -> y.element(-1), NSEE);
        Contextwright all = Checks.ran(99, "(: (E (n 29)) (o -1))");
        Checks.due("the first and the last", all.element(0) + " " + all.element(29), "0 1000000");
        Checks.dueCall("behind the thirtieth", () -> all.element(30), NSEE);
        y.run(false, 1);
        Checks.dueCall("none in a shorter run", () -> y.element(0), NSEE);
    }

    private static void loans() {
        Checks.sentence("Returns how often package variables were lent in the last run.");
        Contextwright x = Checks.program("(; (L 0 -1) (; (b (L 0 (n 1))) (; (o 0) (d (n 1)))))", "(L 3 (n 2))");
        Checks.due("run", x.run(false, 99), 'd');
        Checks.due("lent and given back", x.lent() + " " + x.givenBack(), "3 3");
        Checks.sentence("Returns how often they were given back.");
        x.run(false, 1);
        Checks.due("none in a shorter run", x.lent() + " " + x.givenBack(), "0 0");
        x.run(false, 5);
        Checks.due("over in a block ahead of its loan", x.lent() + " " + x.givenBack(), "1 1");
        x.run(false, 6);
        Checks.due("over behind its loan", x.lent() + " " + x.givenBack(), "2 2");
    }

    private static void thingsOfRuns() {
        Checks.sentence("Returns how many things were made in the last run.");
        Contextwright x = Checks.program("(; (o 0) (; (o 1) (; (o -1) (: (g 0) (o 0)))))", "(p (n 1))");
        Checks.due("run", x.run(false, 99) + " " + x.made(), "e 4");
        Checks.sentence("Returns how many destructors were run, those that were begun when the run was over included.");
        Checks.due("destroyed", x.destroyed(), 3);
        Checks.due("begun at the first step", x.run(false, 2) + " " + x.made() + " " + x.destroyed(), "l 1 1");
        Checks.due("begun and over in it", x.run(false, 3) + " " + x.made() + " " + x.destroyed(), "l 1 1");
        Checks.due("none made", x.run(false, 1) + " " + x.made() + " " + x.destroyed(), "l 0 0");
        Checks.due("made behind a destructor", x.run(false, 6) + " " + x.made() + " " + x.destroyed(), "l 2 2");
    }

    private static void once() {
        Checks.sentence("The thinned program prints what the plain one does; each lent value is given back once; each destructor runs once.");
        Contextwright x = Checks.program("(; (v (b (; (L 0 (+ (n 1) (n 2))) (; (: (g 1) (o 0)) (; (; (b (w)) (p (g 0))) (d (o 0))))))) (; (n 1) (p (g 3))))",
            "(; (L 1 (g 0)) (; (p (g 1)) (: (g 2) (@ 0))))");
        for (boolean isThinned : new boolean[] {false, true}) {
            Checks.due("ending", x.run(isThinned, 99), 'e');
            Checks.due("prints", Checks.prints(x), "3 1000001 0 0");
            Checks.due("given back once", x.lent() + " " + x.givenBack(), "3 3");
            Checks.due("destructors run once", x.made() + " " + x.destroyed(), "2 2");
        }
    }

    private static void ranks() {
        Checks.sentence("Returns its rank, from 0; -1 if it is not gone.");
        Contextwright x = Checks.program("(; (: (g 0) (o -1)) (; (o -1) (o 0)))", "(n 1)");
        x.run(false, 99);
        Checks.due("ranks", x.gone(0) + " " + x.gone(1) + " " + x.gone(2), "2 0 1");
        Checks.dueCall("no such thing", () -> x.gone(3), NSEE);
        x.run(false, 7);
        Checks.due("over in a destructor", x.made() + " " + x.gone(0) + " " + x.gone(1) + " " + x.gone(2), "3 -1 0 -1");
        x.run(false, 6);
        Checks.due("over ahead of the third", x.made() + " " + x.gone(0) + " " + x.gone(1), "2 -1 0");
        Checks.dueCall("not made in a shorter run", () -> x.gone(2), NSEE);
    }

    private static void allSteps() {
        Checks.sentence("Returns the number of steps of all runs.");
        Contextwright x = Checks.program("(; (n 1) (p (+ (n 1) (n 2))))");
        Checks.due("none", x.allSteps(), 0L);
        x.run(false, 99);
        Checks.due("plain", x.allSteps(), 6L);
        x.run(true, 99);
        Checks.due("thinned", x.allSteps(), 8L);
        x.run(false, 1);
        Checks.due("over", x.allSteps(), 9L);
        x.isConsistent();
        Checks.answer(() -> x.run(false, 0));
        Checks.due("no run", x.allSteps(), 9L);
        x.setMain(x.addNode('l', 0, 0, 0));
        for (int i = 0; i < 20; i++) {
            x.run(i % 2 == 0, 2000);
        }
        Checks.due("many", x.allSteps(), 40009L);
    }

    private static void shares() {
        Checks.sentence("Returns the size of the thinned main node divided by that of the plain one, both converted to float.");
        Checks.due("a third", Checks.program("(+ (n 1) (n 2))").thinShare(), 1.0f / 3.0f);
        Checks.due("all", Checks.program("(n 1)").thinShare(), 1.0f);
        Contextwright x = new Contextwright();
        int greatest = addGreatest(x);
        int idle = x.addNode(';', x.addNode('n', 1, 0, 0), greatest, 0);
        x.setMain(idle);
        Checks.due("sizes that go round", x.size(idle) + " " + x.thinShare(), (MIN + 1) + " " + (float) MAX / (float) (MIN + 1));
        x.setMain(greatest);
        Checks.due("greatest sizes", x.thinShare(), 1.0f);
        Checks.sentence("or the plain size is 0");
        int minusOne = x.addNode(',', greatest, greatest, 0);
        x.setMain(x.addNode('d', minusOne, 0, 0));
        Checks.dueCall("a plain size of 0", x::thinShare, "ArithmeticException");
        x.setMain(minusOne);
        Checks.due("sizes of -1", x.thinShare(), 1.0f);
        // Of these two only the thinned size is 0.
        int number = 31;
        int thinnedZero = x.addNode('d', x.addNode(';', number, minusOne, 0), 0, 0);
        x.setMain(thinnedZero);
        Checks.due("a thinned size of 0", x.size(thinnedZero) + " " + x.thinnedSize(thinnedZero) + " " + x.thinShare(), "2 0 0.0");
    }

    private static void means() {
        Checks.sentence("their sum, as a long, converted to double, divided by their number, converted to double");
        Contextwright x = Checks.program("(p (, (g 0) (, (g 1) (, (g 2) (g 3)))))");
        x.setVariable(0, MAX);
        x.setVariable(1, MAX);
        x.setVariable(2, MAX);
        x.run(false, 99);
        Checks.due("a sum above an int", x.meanPrinted(), 3.0 * MAX / 4.0);
        x.setVariable(3, 1);
        x.run(false, 99);
        Checks.due("a sum that is no multiple", x.meanPrinted(), (3.0 * MAX + 1.0) / 4.0);
        for (int variable = 0; variable < 4; variable++) {
            x.setVariable(variable, MIN);
        }
        x.run(false, 99);
        Checks.due("a sum below an int", x.meanPrinted(), (double) MIN);
        Checks.due("nothing counts -1000000", Checks.ran(9, "(p (, (x 0) (n 5)))").meanPrinted(), -999995.0 / 2.0);
        Checks.due("one", Checks.ran(9, "(p (n 7))").meanPrinted(), 7.0);
        Checks.due("a sum of 0", Checks.ran(9, "(p (, (n 7) (n -7)))").meanPrinted(), 0.0);
    }

    // ---- isConsistent

    private static void consistentWithoutMainNode() {
        Checks.sentence("by running the main node, if there is one");
        Contextwright x = new Contextwright();
        Checks.due("a new object", x.isConsistent(), true);
        x = Checks.program(SEEN.replace("WHAT", "(p (+ (g 0) (n 0)))"), SET_ZERO);
        int main = x.setMain(-1);
        Checks.due("without main node", x.isConsistent(), true);
        x.setMain(main);
        Checks.due("with it", x.isConsistent(), false);
    }

    private static void againAndAgain() {
        Checks.sentence("Returns true if the invariants hold.");
        Contextwright x = Checks.program(SEEN.replace("WHAT", "(d (+ (g 0) (n 0)))"), SET_ZERO);
        int fine = Checks.add(x, "(p (n 1))");
        for (int i = 0; i < 3; i++) {
            int seen = x.setMain(fine);
            Checks.due("isConsistent of a fine one", x.isConsistent(), true);
            x.setMain(seen);
            Checks.due("isConsistent of one that is seen", x.isConsistent(), false);
        }
    }

    private static void noRunByItself() {
        againAndAgain();
        Checks.sentence("which is no run by itself");
        Contextwright x = Checks.program("(? (g 0) (; (L 0 (n 1)) (; (: (E (n 1)) (o 0)) (d (n 7)))) (p (n 4)))", "(p (n 5))");
        x.run(false, 99);
        x.setVariable(0, 1);
        Checks.due("isConsistent", x.isConsistent(), true);
        String left = x.ending() + " " + Checks.prints(x) + " " + x.steps() + " " + Checks.variables(x) + " " + x.elements() + x.lent()
            + x.givenBack() + x.made() + x.destroyed() + " " + x.allSteps() + " " + Checks.answer(x::died) + " " + x.meanPrinted();
        Checks.due("what the last run has left", left, "e 4 4 0 0 0 0 00000 4 " + NSEE + " 4.0");
    }

    private static void dueSeen(boolean want, String what, String... subs) {
        String[] bodies = {SET_ZERO, subs.length > 0 ? subs[0] : ""};
        Contextwright x = Checks.program(SEEN.replace("WHAT", what), bodies);
        Checks.due("isConsistent of " + what, x.isConsistent(), want);
    }

    /** In the plain program the variable 0 is 5 here, and in the thinned one 0. */
    private static void notConsistent() {
        String five = "(+ (g 0) (n 0))";
        Checks.sentence("both end alike");
        dueSeen(false, "(? " + five + " (d (n 1)) (A))");
        Checks.sentence("print the same values");
        dueSeen(false, "(p " + five + ")");
        dueSeen(false, "(? " + five + " (p (n 1)) (A))");
        Checks.sentence("throw the same value");
        dueSeen(false, "(d " + five + ")");
        Checks.sentence("and have the same package variables and elements behind");
        for (int variable = 1; variable < 4; variable++) {
            dueSeen(false, "(: (g " + variable + ") " + five + ")");
        }
        Contextwright x = Checks.program(SEEN.replace("WHAT", "(: (g 0) (+ (g 1) (n 0)))"), "(: (g 1) (n 5))");
        Checks.due("isConsistent with another variable 0", x.isConsistent(), false);
        dueSeen(false, "(: (E (n 0)) " + five + ")");
        dueSeen(false, "(: (E (n 29)) " + five + ")");
        dueSeen(false, "(c 1 (E " + five + "))");
        // What the variable 0 held is let go of ahead of the index, which is asked behind a number in the plain program.
        Contextwright y = Checks.program("(; (: (g 0) (o 0)) (: (, (g 0) (E (; (n 1) (g 1)))) (, (n 5) (n 6))))", "(: (g 1) (n 3))");
        Checks.due("elements", y.run(false, 99) + " " + y.elements() + " " + y.run(true, 99) + " " + y.elements(), "e 4 e 1");
        Checks.due("isConsistent with an index that differs", y.isConsistent(), false);
        // What the slot of a loop was made is let go of when the loop goes on.
        y = Checks.program("(f 0 (, (n 1) (n 2)) (; (n 1) (; (p (+ (g 0) (n 0))) (m 0 (o 0)))))", SET_ZERO);
        Checks.due("plain loop", y.run(false, 99) + " " + Checks.prints(y), "e 0 5");
        Checks.due("thinned loop", y.run(true, 99) + " " + Checks.prints(y), "e 0 0");
        Checks.due("isConsistent with a loop that goes on", y.isConsistent(), false);
        dueSeen(true, "(: (x 0) " + five + ")");
        dueSeen(true, "(? " + five + " (A) (B))");
    }

    private static void consistentIfOver() {
        Checks.sentence("plain and thinned with 2000 steps each");
        String seen = SEEN.replace("WHAT", "(p (+ (g 0) (n 0)))");
        Contextwright x = ofSteps(2000, seen, SET_ZERO);
        Checks.due("all 2000 steps", x.run(false, 2000) + " " + x.steps(), "e 2000");
        Checks.due("isConsistent of 2000 steps", x.isConsistent(), false);
        Checks.sentence("if neither is over by its steps");
        x = ofSteps(2001, seen, SET_ZERO);
        Checks.due("a step more", x.run(false, 2000) + " " + x.run(true, 2000), "l e");
        Checks.due("isConsistent of 2001 steps", x.isConsistent(), true);
        x = Checks.program("(; " + seen + " (l (n 1) (n 1)))", SET_ZERO);
        Checks.due("isConsistent if both are over", x.isConsistent(), true);
        Checks.sentence("in each of both, lent values were given back as often as they were lent");
        x = Checks.program("(; (L 0 (n 1)) (l (n 1) (c 0 -1)))", "(L 1 (n 1))");
        Checks.due("isConsistent if over with loans", x.isConsistent(), true);
    }

    // ---- the face

    private static void callsOfOneObject() {
        Checks.sentence("An object is used for at most 512 calls after it has been made");
        Contextwright x = new Contextwright();
        int call = 0;
        String main = "(; (: (E (n 29)) (o 0)) (l (n 1) (; (p (, (A) (A))) (: (A) (, (A) (, (A) (A)))))))";
        x.setSub(0, Checks.add(x, "(p (@ 0))"));
        x.setMain(Checks.add(x, main));
        call += x.nodes() + 3;
        while (call < 510) {
            x.run(call % 2 == 0, 2000);
            call++;
        }
        Checks.due("the call before the last", x.isConsistent(), true);
        Checks.due("the last call", x.printedAt(59), 1000000);
    }
}
