/** Promises 10 to 20 and 24 to 27: what a run answers, and what each kind of node does in it. */
public final class RunsTest {
    private static final String IAE = "IllegalArgumentException";
    private static final String IOOBE = "IndexOutOfBoundsException";
    private static final String ISE = "IllegalStateException";
    private static final String NSEE = "NoSuchElementException";
    private static final String SET_FIRST_ARGUMENT = "(: (@ 0) (n 8))";

    public static void main(String[] args) {
        nothingWasRun();
        whatRunThrows();
        endings();
        stepsOfRuns();
        overOnTheWay();
        printedValues();
        whatIsBehind();
        means();
        consistency();
        values();
        namesAndArguments();
        elementsOfTheArray();
        reckoning();
        ordersOfParts();
        assigningOne();
        assigningLists();
        blocks();
        loans();
        loops();
        calls();
        returns();
        throwing();
        partsNumberedZero();
        Checks.end("RunsTest");
    }

    private static void does(String want, String main, String... subs) {
        Checks.does(want, main, subs);
    }

    private static void dies(int want, String main, String... subs) {
        Checks.dies(want, main, subs);
    }

    private static Contextwright ran(int steps, String main, String... subs) {
        return Checks.ran(steps, main, subs);
    }

    // ---- the calls of runs

    private static void dueBehindNoRun(Contextwright x) {
        Checks.dueCall("ending without run", () -> x.ending(), ISE);
        Checks.dueCall("printed without run", () -> x.printed(), ISE);
        Checks.dueCall("died without run", () -> x.died(), ISE);
        Checks.dueCall("steps without run", () -> x.steps(), ISE);
        Checks.dueCall("elements without run", () -> x.elements(), ISE);
        Checks.dueCall("lent without run", () -> x.lent(), ISE);
        Checks.dueCall("givenBack without run", () -> x.givenBack(), ISE);
        Checks.dueCall("made without run", () -> x.made(), ISE);
        Checks.dueCall("destroyed without run", () -> x.destroyed(), ISE);
        Checks.dueCall("meanPrinted without run", () -> x.meanPrinted(), ISE);
        for (int index : new int[] {0, -1, 4, 99}) {
            Checks.dueCall("printedAt without run", () -> x.printedAt(index), ISE);
            Checks.dueCall("variable without run", () -> x.variable(index), ISE);
            Checks.dueCall("element without run", () -> x.element(index), ISE);
            Checks.dueCall("gone without run", () -> x.gone(index), ISE);
        }
        Checks.due("allSteps without run", x.allSteps(), 0L);
    }

    private static void nothingWasRun() {
        dueBehindNoRun(new Contextwright());
        Contextwright x = Checks.program("(p (n 1))");
        Checks.due("isConsistent without run", x.isConsistent(), true);
        Checks.dueCall("run with too few steps", () -> x.run(false, 0), IAE);
        dueBehindNoRun(x);
    }

    private static void whatRunThrows() {
        Contextwright x = Checks.program("(p (n 1))");
        for (int steps : new int[] {0, -1, 2001, Integer.MIN_VALUE, Integer.MAX_VALUE}) {
            Checks.dueCall("run " + steps, () -> x.run(true, steps), IAE);
        }
        Checks.dueCall("run 1", () -> x.run(false, 1), 'l');
        Checks.dueCall("run 2000", () -> x.run(false, 2000), 'e');
        int main = x.setMain(-1);
        Checks.dueCall("run without main node", () -> x.run(false, 5), ISE);
        Checks.dueCall("run without main node and steps", () -> x.run(false, 0), ISE);
        Checks.due("ending behind a run that throws", x.ending(), 'e');
        Checks.due("printed behind a run that throws", Checks.prints(x), "1");
        Checks.due("allSteps behind a run that throws", x.allSteps(), 3L);
        x.setMain(main);
        Checks.dueCall("run 0", () -> x.run(false, 0), IAE);
        Checks.due("steps behind a run that throws", x.steps(), 2);
    }

    private static void endings() {
        Contextwright x = Checks.program("(? (g 0) (d (g 0)) (p (g 0)))");
        Checks.due("run", x.run(false, 100), 'e');
        Checks.due("ending", x.ending(), 'e');
        Checks.dueCall("died", () -> x.died(), NSEE);
        x.setVariable(0, -5);
        Checks.due("run that dies", x.run(false, 100), 'd');
        Checks.due("ending d", x.ending(), 'd');
        Checks.dueCall("died -5", () -> x.died(), -5);
        Checks.due("printed nothing", x.printed(), 0);
        Checks.due("run that is over", x.run(false, 2), 'l');
        Checks.due("ending l", x.ending(), 'l');
        Checks.dueCall("died when over", () -> x.died(), NSEE);
        dies(0, "(d (0))");
        dies(1000000, "(d (o -1))");
    }

    private static void stepsOfRuns() {
        Contextwright x = Checks.program("(p (+ (n 1) (n 2)))");
        Checks.due("run plain", x.run(false, 4), 'e');
        Checks.due("steps", x.steps(), 4);
        Checks.due("run thinned", x.run(true, 2), 'e');
        Checks.due("steps thinned", x.steps(), 2);
        Checks.due("run with a step too few", x.run(false, 3), 'l');
        Checks.due("steps when over", x.steps(), 3);
        Checks.due("allSteps", x.allSteps(), 9L);
        x.isConsistent();
        Checks.due("allSteps behind isConsistent", x.allSteps(), 9L);
        Checks.due("steps of an assignment of a list", ran(99, "(: (, (x 0) (A)) (, (n 1) (n 2)))").steps(), 7);
        Checks.due("steps of an assignment", ran(99, "(: (x 0) (n 1))").steps(), 3);
        Checks.due("steps of a call", ran(99, "(c 0 (n 1))", "(r (@ 0))").steps(), 4);
        Checks.due("steps of a loop", ran(99, "(f 0 (, (n 1) (n 2)) (x 0))").steps(), 6);
        Checks.due("steps of a repetition", ran(99, "(l (< (g 0) (n 2)) (: (g 0) (+ (g 0) (n 1))))").steps(), 20);
        Contextwright y = Checks.program("(l (n 1) (n 1))");
        for (int i = 1; i <= 4; i++) {
            Checks.due("run without end", y.run(false, 2000), 'l');
            Checks.due("steps without end", y.steps(), 2000);
            Checks.due("allSteps without end", y.allSteps(), 2000L * i);
        }
    }

    private static void overOnTheWay() {
        String main = "(; (b (; (L 0 (n 4)) (; (: (g 1) (g 0)) (p (n 7))))) (p (n 8)))";
        Contextwright x = ran(10, main);
        Checks.due("ending in a block", x.ending(), 'l');
        Checks.due("printed in a block", x.printed(), 0);
        Checks.due("lent in a block", x.lent(), 1);
        Checks.due("givenBack in a block", x.givenBack(), 1);
        Checks.due("variable 0 given back", x.variable(0), 0);
        Checks.due("variable 1 of a block", x.variable(1), 4);
        Checks.due("a step later", Checks.prints(ran(11, main)), "7");
        x = ran(5, "(v (c 0 -1))", "(; (L 2 (n 3)) (d (n 1)))");
        Checks.due("over ahead of a throw", x.ending() + " " + x.lent() + x.givenBack(), "l 11");
        Checks.due("over goes through a try", x.variable(3), 0);
    }

    private static void printedValues() {
        Contextwright x = ran(99, "(p (, (n -7) (, (x 0) (, (o -1) (g 1)))))");
        Checks.due("printed", x.printed(), 4);
        Checks.dueCall("printedAt 0", () -> x.printedAt(0), -7);
        Checks.dueCall("printedAt 1", () -> x.printedAt(1), -1000000);
        Checks.dueCall("printedAt 2", () -> x.printedAt(2), 1000000);
        Checks.dueCall("printedAt 3", () -> x.printedAt(3), 0);
        for (int no : new int[] {-1, 4, Integer.MIN_VALUE, Integer.MAX_VALUE}) {
            Checks.dueCall("printedAt " + no, () -> x.printedAt(no), NSEE);
        }
        x.run(false, 1);
        Checks.due("printed in a shorter run", x.printed(), 0);
        Checks.dueCall("printedAt 0 in a shorter run", () -> x.printedAt(0), NSEE);
        does("e 1 2 2", "(p (p (, (n 1) (n 2))))");
        does("e 0", "(p (p (0)))");
        String fill = "(; (: (E (n 29)) (n 5)) (l (n 1) (p (A))))";
        Checks.due("very many printed", ran(2000, fill).printed(), 30 * ((2000 - 6) / 3));
    }

    private static void whatIsBehind() {
        Contextwright x = ran(99, "(; (: (g 2) (n 6)) (: (A) (, (n 5) (, (x 0) (o -1)))))");
        Checks.due("elements", x.elements(), 3);
        Checks.dueCall("element 0", () -> x.element(0), 5);
        Checks.dueCall("element 1", () -> x.element(1), 0);
        Checks.dueCall("element 2", () -> x.element(2), 1000000);
        for (int no : new int[] {-1, 3, Integer.MIN_VALUE, Integer.MAX_VALUE}) {
            Checks.dueCall("element " + no, () -> x.element(no), NSEE);
        }
        Checks.dueCall("variable 2", () -> x.variable(2), 6);
        Checks.dueCall("variable 3", () -> x.variable(3), 0);
        for (int no : new int[] {-1, 4, Integer.MIN_VALUE, Integer.MAX_VALUE}) {
            Checks.dueCall("variable " + no, () -> x.variable(no), IOOBE);
        }
        x.setVariable(2, 77);
        Checks.dueCall("variable 2 of the last run", () -> x.variable(2), 6);
        x.isConsistent();
        Checks.due("elements behind isConsistent", Checks.elements(x), "5 0 1000000");
        x.run(false, 1);
        Checks.dueCall("variable 2 that was set", () -> x.variable(2), 77);
        Checks.due("elements are none ahead of a run", x.elements(), 0);
        x.setMain(Checks.add(x, "(: (g 0) (+ (g 0) (n 1)))"));
        x.run(false, 99);
        x.run(false, 99);
        Checks.dueCall("a run begins anew", () -> x.variable(0), 1);
        Contextwright late = ran(99, "(; (: (g 0) (o 0)) (: (E (n 0)) (n 3)))",
            "(; (: (g 1) (n 9)) (: (A) (, (n 1) (n 2))))");
        Checks.due("variable ahead of the destructors", late.variable(1), 0);
        Checks.due("elements ahead of the destructors", Checks.elements(late), "3");
    }

    private static void means() {
        Contextwright x = Checks.program("(p (, (n 1) (, (n 2) (n 2))))");
        x.run(false, 99);
        Checks.dueCall("meanPrinted", () -> x.meanPrinted(), 5.0 / 3.0);
        x.run(false, 1);
        Checks.dueCall("meanPrinted of none", () -> x.meanPrinted(), "ArithmeticException");
        Contextwright y = Checks.program("(p (, (g 0) (, (g 1) (x 0))))");
        y.setVariable(0, Integer.MAX_VALUE);
        y.setVariable(1, Integer.MAX_VALUE);
        y.run(false, 99);
        Checks.dueCall("meanPrinted as a long", () -> y.meanPrinted(), (2.0 * Integer.MAX_VALUE - 1000000.0) / 3.0);
    }

    private static void consistency() {
        Contextwright x = Checks.program("(; (p (! (n 0))) (d (n 3)))");
        Checks.due("isConsistent", x.isConsistent(), true);
        // The thing is let go of behind a number that only the plain program has.
        String late = "(l (o 0) (; (; (n 1) (p (+ (g 0) (n 0)))) (B)))";
        Contextwright y = Checks.program(late, "(: (g 0) (n 5))");
        Checks.due("isConsistent where thinning is seen", y.isConsistent(), false);
        y.run(false, 99);
        Checks.due("plain", Checks.prints(y), "5");
        y.run(true, 99);
        Checks.due("thinned", Checks.prints(y), "0");
        String[] seenOnlyBehind = {"(: (g 1) (+ (g 0) (n 0)))", "(: (E (n 0)) (+ (g 0) (n 0)))",
            "(d (+ (g 0) (n 0)))", "(? (+ (g 0) (n 0)) (d (n 1)) (n 1))", "(c 1 (E (+ (g 0) (n 0))))"};
        for (String seen : seenOnlyBehind) {
            Contextwright other = Checks.program(late.replace("(p (+ (g 0) (n 0)))", seen), "(: (g 0) (n 5))");
            Checks.due("isConsistent with " + seen, other.isConsistent(), false);
        }
        Contextwright far = Checks.program("(l (< (g 0) (n 220)) (: (g 0) (+ (g 0) (+ (n 1) (n 0)))))");
        Checks.due("thinned to few steps", far.run(false, 2000) + "" + far.run(true, 2000), "le");
        Checks.due("isConsistent if only the plain one is over", far.isConsistent(), true);
        Contextwright z = Checks.program("(; " + late + " (l (n 1) (n 1)))", "(: (g 0) (n 5))");
        Checks.due("isConsistent if over", z.isConsistent(), true);
    }

    // ---- what the kinds do

    private static void values() {
        does("e ", "(p (0))");
        does("e 1", "(p (! (0)))");
        does("e 3", "(p (+ (0) (n 3)))");
        does("e 2", "(p (? (0) (n 1) (n 2)))");
        does("e 2", "(p (? (n 0) (n 1) (n 2)))");
        does("e 1", "(p (? (n -1) (n 1) (n 2)))");
        does("e 1", "(p (? (o -1) (n 1) (n 2)))");
        does("e 0", "(p (! (o -1)))");
        does("e 1000001", "(p (+ (o -1) (n 1)))");
        does("e 1000000 1000001", "(p (, (o -1) (o -1)))");
        does("e 1 2", "(p (? (n 5) (, (n 1) (n 2)) (n 3)))");
        does("e ", "(p (? (n 0) (, (n 1) (n 2)) (0)))");
    }

    private static void namesAndArguments() {
        does("e -", "(p (x 0))");
        does("e 0", "(p (g 0))");
        does("e -", "(p (@ 0))");
        does("e 0", "(p (+ (@ 0) (n 0)))");
        does("e 0", "(p (w))");
        does("e 0", "(p (N))");
        does("e 2", "(p (c 0 -1))", "(w)");
        does("e 1", "(p (+ (c 0 -1) (n 0)))", "(w)");
        does("e 0", "(; (c 0 -1) (p (g 0)))", "(: (g 0) (w))");
        does("e 1", "(p (b (c 0 (n 3))))", "(N)");
        does("e 3", "(p (c 0 (, (A) (, (n 3) (, (n 4) (n 5))))))", "(N)");
        does("e 4 3", "(p (c 0 (, (n 3) (n 4))))", "(, (@ 1) (@ 0))");
        does("e - 3", "(p (c 0 (n 3)))", "(, (@ 1) (@ 0))");
        does("e 8", "(; (c 0 (x 2)) (p (x 2)))", SET_FIRST_ARGUMENT);
        does("e 8", "(; (c 0 (g 2)) (p (g 2)))", SET_FIRST_ARGUMENT);
        does("e - 8", "(; (c 0 (E (n 1))) (p (A)))", SET_FIRST_ARGUMENT);
        does("e 8 2", "(; (: (A) (, (n 1) (n 2))) (; (c 0 (A)) (p (A))))", SET_FIRST_ARGUMENT);
        does("e 3", "(; (: (x 1) (n 3)) (p (c 0 -1)))", "(? (x 1) (n 4) (n 3))");
        does("e 8", "(; (c 1 (x 0)) (p (x 0)))", SET_FIRST_ARGUMENT, "(c 0 (@ 0))");
        does("e ", "(; (: (@ 0) (n 4)) (0))");
        does("e -", "(; (: (@ 0) (n 4)) (p (@ 0)))");
    }

    private static void elementsOfTheArray() {
        does("e - - 5", "(; (: (E (n 2)) (n 5)) (p (A)))");
        does("e 1 0", "(; (p (! (E (n 4)))) (p (+ (A) (n 0))))");
        does("e - 2", "(; (p (E (n 1))) (p (+ (A) (n 0))))");
        does("e 0", "(; (E (n 4)) (p (+ (A) (n 0))))");
        does("e 5", "(; (: (A) (, (n 4) (n 5))) (p (E (n 1))))");
        does("e 30", "(; (: (E (n 29)) (n 5)) (p (+ (A) (n 0))))");
        does("e -", "(p (E (x 0)))");
        dies(900, "(E (n 30))");
        dies(900, "(E (n -1))");
        dies(900, "(E (o -1))");
        dies(900, "(p (E (n 999)))");
        dies(900, "(: (E (n 30)) (n 1))");
        dies(900, "(k (E (n 30)))");
    }

    private static void reckoning() {
        does("e 7 -1 12", "(p (, (+ (n 3) (n 4)) (, (- (n 3) (n 4)) (* (n 3) (n 4)))))");
        does("e 1 0 0", "(p (, (< (n 3) (n 4)) (, (< (n 4) (n 4)) (< (n 4) (n 3)))))");
        does("e 0 1 1", "(p (, (q (n 3) (n 4)) (, (q (n 4) (n 4)) (q (x 0) (n 0)))))");
        does("e 1", "(p (< (n 999) (o -1)))");
        does("e 1000001", "(; (: (x 0) (, (o -1) (o -1))) (p (x 0)))");
        Contextwright x = Checks.program("(p (, (+ (g 0) (g 1)) (, (- (g 2) (g 1)) (* (g 0) (g 0)))))");
        x.setVariable(0, Integer.MAX_VALUE);
        x.setVariable(1, 1);
        x.setVariable(2, Integer.MIN_VALUE);
        x.run(false, 99);
        Checks.due("numbers that go round", Checks.prints(x), Integer.MIN_VALUE + " " + Integer.MAX_VALUE + " 1");
    }

    private static void ordersOfParts() {
        does("e 0", "(p (- (: (g 0) (n 5)) (g 0)))");
        does("e -5", "(p (- (g 0) (: (g 0) (n 5))))");
        does("e 1 2", "(p (; (n 9) (, (n 1) (n 2))))");
        does("e 5", "(p (+ (n 0) (, (n 4) (n 5))))");
        does("e 4 5", "(; (, (p (n 4)) (p (n 5))) (0))");
        does("e 6 1 2", "(p (, (0) (; (p (n 6)) (, (n 1) (n 2)))))");
        does("e 5 5", "(p (, (g 0) (: (g 0) (n 5))))");
    }

    private static void assigningOne() {
        does("e 8", "(; (c 0 (: (x 0) (n 3))) (p (x 0)))", SET_FIRST_ARGUMENT);
        does("e 3", "(p (+ (: (x 0) (n 3)) (n 0)))");
        does("e - 1", "(; (: (E (g 0)) (: (g 0) (n 1))) (p (A)))");
        does("e 2", "(; (: (x 0) (, (n 1) (n 2))) (p (x 0)))");
        does("e -", "(; (: (g 0) (0)) (p (g 0)))");
        does("e 2", "(; (: (A) (, (n 7) (n 7))) (; (: (x 0) (A)) (p (x 0))))");
        does("e 3 3", "(p (, (: (x 0) (n 3)) (x 0)))");
        does("e 4", "(; (: (x 0) (: (x 1) (n 4))) (p (x 0)))");
    }

    private static void assigningLists() {
        does("e 2 1", "(; (: (, (x 0) (x 1)) (, (n 1) (n 2))) (; (: (, (x 0) (x 1)) (, (x 1) (x 0))) (p (, (x 0) (x 1)))))");
        does("e 1 -", "(; (: (x 1) (n 7)) (; (: (, (x 0) (x 1)) (n 1)) (p (, (x 0) (x 1)))))");
        does("e 3", "(p (+ (n 0) (: (, (x 0) (x 1)) (, (n 1) (, (n 2) (n 3))))))");
        does("e 1 2", "(p (: (, (x 0) (x 1)) (, (n 1) (, (n 2) (n 3)))))");
        does("e 1 2 3", "(p (: (, (x 0) (A)) (, (n 1) (, (n 2) (n 3)))))");
        does("e 1 2 3 -", "(p (: (, (x 0) (, (A) (x 1))) (, (n 1) (, (n 2) (n 3)))))");
        does("e 1 2 3 4", "(; (: (, (, (x 0) (g 0)) (, (@ 0) (E (n 0)))) (, (n 1) (, (n 2) (, (n 3) (n 4))))) "
            + "(p (, (x 0) (, (g 0) (, (n 3) (A))))))");
        // The array gives the elements that it has when the assignment is done.
        does("e 1 2 - - -", "(p (: (, (A) (E (n 3))) (, (n 1) (n 2))))");
        does("e 1 2 -", "(p (: (, (A) (x 0)) (, (n 1) (n 2))))");
        does("e - -", "(p (: (, (A) (E (; (: (A) (0)) (n 0)))) (, (n 1) (n 2))))");
        does("e 0", "(p (+ (n 0) (: (A) (0))))");
        does("e ", "(p (: (A) (0)))");
        does("e 3 2", "(; (: (A) (, (n 1) (, (n 2) (n 3)))) (; (: (A) (, (E (n 2)) (E (n 1)))) (p (A))))");
        does("e 0 1 2", "(; (: (, (g 0) (E (g 0))) (, (n 1) (n 2))) (p (, (n 0) (, (g 0) (E (n 1))))))");
        does("e 2 1 1", "(; (: (, (x 0) (x 0)) (, (n 2) (n 1))) (p (, (n 2) (, (x 0) (x 0)))))");
        does("e 9 9", "(; (f 1 (: (, (x 0) (g 0)) (, (n 1) (n 2))) (: (x 1) (n 9))) (p (, (x 0) (g 0))))");
        Contextwright x = ran(99, "(; (: (E (n 29)) (n 3)) (p (+ (n 0) (: (A) (, (n 1) (A))))))");
        Checks.due("values of a long list", Checks.prints(x), "31");
        Checks.due("at most 30 elements", x.elements(), 30);
        Checks.due("the last element", x.element(29), 0);
        does("e 2", "(; (c 0 (A)) (p (+ (n 0) (: (A) (, (n 4) (n 5))))))", SET_FIRST_ARGUMENT);
    }

    private static void blocks() {
        does("e -", "(; (c 0 (b (x 0))) (p (x 0)))", SET_FIRST_ARGUMENT);
        does("e -", "(; (c 0 (v (x 0))) (p (x 0)))", SET_FIRST_ARGUMENT);
        does("e 8", "(; (c 0 (m 0 (n 3))) (p (x 0)))", SET_FIRST_ARGUMENT);
        does("e 2 1", "(; (: (x 0) (n 1)) (; (b (; (m 0 (n 2)) (p (x 0)))) (p (x 0))))");
        does("e 2 1", "(; (: (x 0) (n 1)) (; (v (; (m 0 (n 2)) (p (x 0)))) (p (x 0))))");
        does("e 2 2", "(; (: (x 0) (n 1)) (; (b (; (: (x 0) (n 2)) (p (x 0)))) (p (x 0))))");
        does("e -", "(; (: (x 0) (n 1)) (; (m 0 -1) (p (x 0))))");
        does("e - 1", "(; (: (x 0) (n 1)) (; (p (b (m 0 -1))) (p (x 0))))");
        does("e 3 4", "(p (b (, (m 0 (n 3)) (n 4))))");
        does("e 4 -", "(; (p (v (; (m 5 (n 4)) (x 5)))) (p (x 5)))");
        does("e 5", "(p (+ (m 0 (n 5)) (n 0)))");
        does("e 1", "(; (: (x 0) (n 1)) (; (v (; (m 0 (n 2)) (d (n 5)))) (p (x 0))))");
        does("e 1", "(; (: (x 0) (n 1)) (; (f 1 (n 1) (b (; (m 0 (n 2)) (B)))) (p (x 0))))");
    }

    private static void loans() {
        does("e 4 0", "(; (b (; (L 0 (n 4)) (p (g 0)))) (p (g 0)))");
        does("e - 0", "(; (v (; (L 0 -1) (p (g 0)))) (p (g 0)))");
        does("e 4 0", "(; (p (b (L 0 (n 4)))) (p (g 0)))");
        does("e 8", "(; (c 0 (L 0 (n 3))) (p (g 0)))", SET_FIRST_ARGUMENT);
        does("e 2 0", "(; (b (; (L 0 (n 1)) (; (L 0 (n 2)) (p (g 0))))) (p (g 0)))");
        does("e 2 1 0", "(; (b (; (L 0 (n 1)) (; (b (; (L 0 (n 2)) (p (g 0)))) (p (g 0))))) (p (g 0)))");
        does("e 6 6 0", "(; (c 0 -1) (p (g 0)))", "(; (L 0 (n 6)) (; (p (g 0)) (c 1 -1)))", "(p (g 0))");
        does("e 0", "(; (f 0 (n 1) (b (; (L 0 (n 6)) (B)))) (p (g 0)))");
        does("e 6 6", "(; (f 0 (, (n 1) (n 2)) (L 0 (n 6))) (p (, (g 0) (g 0))))");
        does("e 0 4", "(; (v (; (L 0 (n 4)) (d (g 0)))) (p (, (g 0) (g 3))))");
        does("e 6", "(; (v (; (L 3 (n 4)) (d (n 6)))) (p (g 3)))");
        does("e 9", "(; (: (g 0) (n 9)) (; (c 0 (g 0)) (p (g 0))))", "(; (L 0 (n 1)) (: (@ 0) (n 5)))");
        Contextwright x = ran(99, "(; (L 0 (n 4)) (; (L 1 (n 5)) (: (g 2) (+ (g 0) (g 1)))))");
        Checks.due("variables behind the main node", x.variable(0) + " " + x.variable(1) + " " + x.variable(2), "0 0 9");
        Checks.due("lent", x.lent(), 2);
        Checks.due("givenBack", x.givenBack(), 2);
        x = ran(99, "(; (L 0 (n 4)) (; (c 0 -1) (p (n 1))))", "(; (L 0 (n 5)) (d (L 0 (n 6))))");
        Checks.due("a throw through loans", x.ending() + " " + x.died() + " " + x.variable(0), "d 6 0");
        Checks.due("lent and givenBack", x.lent() + " " + x.givenBack(), "3 3");
        Checks.due("lent in no run of loans", ran(9, "(n 1)").lent(), 0);
    }

    private static void loops() {
        does("e 2 3", "(; (: (A) (, (n 1) (n 2))) (; (f 0 (A) (: (x 0) (+ (x 0) (n 1)))) (p (A))))");
        does("e 1 2 9", "(; (: (x 0) (n 9)) (; (f 0 (, (n 1) (n 2)) (p (x 0))) (p (x 0))))");
        does("e ", "(p (f 0 (n 1) (n 2)))");
        does("e 1", "(p (! (f 0 (n 1) (n 2))))");
        does("e ", "(p (l (n 0) (n 2)))");
        does("e 1", "(p (! (l (x 0) (n 2))))");
        does("e ", "(f 0 (0) (p (n 1)))");
        does("e 9", "(; (: (x 1) (n 9)) (; (f 1 (, (n 1) (n 2)) (B)) (p (x 1))))");
        does("e 9 4", "(; (: (x 1) (n 9)) (; (v (f 1 (n 4) (d (x 1)))) (p (, (x 1) (g 3)))))");
        does("e 1 2", "(f 0 (, (n 1) (n 2)) (; (p (x 0)) (f 1 (, (n 3) (n 4)) (B))))");
        does("e 1", "(f 0 (, (n 1) (n 2)) (; (p (x 0)) (; (l (n 1) (B)) (B))))");
        does("e 0 1 2", "(l (< (g 0) (n 3)) (; (p (g 0)) (: (g 0) (+ (g 0) (n 1)))))");
        does("e ", "(p (l (n 1) (B)))");
        does("e 7", "(; (l (B) (n 1)) (p (n 7)))");
        does("e 5", "(; (f 0 (x 1) (; (m 0 (n 3)) (: (x 1) (n 5)))) (p (x 1)))");
        does("e 7 7", "(; (f 0 (, (x 1) (x 2)) (c 0 (x 0))) (p (, (x 1) (x 2))))", "(: (@ 0) (n 7))");
        // The slot is again what it was when the loop began, behind the part b, in which no loop of this f is carried out.
        does("e 3 3", "(; (: (x 0) (n 9)) (; (f 0 (m 0 (n 3)) (p (x 0))) (p (x 0))))");
        does("e 1", "(f 1 (, (n 1) (n 2)) (; (p (x 1)) (f 0 (B) (p (n 5)))))");
        does("e 7", "(; (f 1 (, (n 1) (n 2)) (; (l (B) (n 1)) (? (q (x 1) (n 2)) (p (n 7)) (0)))) (0))");
        dies(902, "(f 0 (B) (n 1))");
        dies(902, "(B)");
        dies(902, "(b (B))");
        dies(902, "(f 0 (n 1) (c 0 -1))", "(B)");
        dies(902, "(; (f 0 (n 1) (B)) (B))");
        dies(902, "(; (l (n 1) (B)) (B))");
        dies(902, "(; (v (l (n 1) (d (n 1)))) (B))");
        does("e 902", "(; (v (B)) (p (g 3)))");
    }

    private static void calls() {
        does("e ", "(p (c 0 -1))");
        does("e 1", "(p (! (c 0 (n 1))))");
        does("e -", "(; (: (x 0) (c 0 -1)) (p (x 0)))");
        does("e 1 2", "(p (c 0 -1))", "(, (n 1) (n 2))");
        does("e 2", "(p (+ (n 0) (c 0 -1)))", "(, (n 1) (n 2))");
        does("e 0", "(; (c 1 (c 0 -1)) (p (g 0)))", "(g 0)", SET_FIRST_ARGUMENT);
        does("e -", "(; (c 0 -1) (p (c 1 -1)))", "(: (x 0) (n 3))", "(x 0)");
        String down = "(; (: (g 0) (+ (g 0) (n 1))) (? (< (g 0) (n 6)) (c 0 -1) (p (g 0))))";
        does("e 6", "(c 0 -1)", down);
        dies(901, "(c 0 -1)", down.replace("(n 6)", "(n 7)"));
        dies(901, "(c 0 -1)", "(c 0 -1)");
        String intoNone = "(; (: (g 0) (+ (g 0) (n 1))) (? (< (g 0) (n 6)) (c 0 -1) (c 1 (p (n 3)))))";
        Contextwright x = ran(200, "(c 0 -1)", intoNone);
        Checks.due("901 of a sub without body, behind its part", x.ending() + Checks.prints(x) + " " + x.died(), "d3 901");
        x = ran(200, "(c 0 -1)", "(; (L 0 (+ (g 0) (n 1))) (c 0 -1))");
        Checks.due("loans of six subs", x.lent() + " " + x.givenBack() + " " + x.variable(0), "6 6 0");
        does("e 901 1", "(; (v (c 0 -1)) (; (p (g 3)) (p (c 1 -1))))", "(c 0 -1)", "(n 1)");
    }

    private static void returns() {
        does("e 1", "(p (c 0 -1))", "(; (r (n 1)) (n 2))");
        does("e 1 2", "(p (c 0 -1))", "(+ (n 1) (r (, (n 1) (n 2))))");
        does("e 2", "(p (+ (n 0) (c 0 -1)))", "(? (r (, (n 1) (n 2))) (n 5) (n 6))");
        does("e ", "(p (c 0 -1))", "(, (n 1) (r -1))");
        does("e -", "(; (: (g 0) (c 0 -1)) (p (g 0)))", "(r -1)");
        does("e 2", "(p (c 0 -1))", "(r (w))");
        does("e 5 0", "(; (p (c 0 -1)) (p (g 0)))", "(; (L 0 (n 5)) (r (g 0)))");
        does("e 5 0", "(; (p (+ (c 0 -1) (n 0))) (p (g 0)))", "(b (; (L 0 (n 5)) (r (g 0))))");
        does("e 0", "(; (c 1 (c 0 -1)) (p (g 0)))", "(r (g 0))", SET_FIRST_ARGUMENT);
        does("e 1 7", "(; (p (c 0 -1)) (p (n 7)))", "(f 0 (, (n 1) (n 2)) (v (r (x 0))))");
        does("e 3", "(; (p (n 3)) (; (r (n 1)) (p (n 4))))");
        does("e 3", "(v (f 0 (n 1) (; (p (n 3)) (r -1))))");
        does("e 3 4", "(; (c 0 -1) (p (n 4)))", "(l (n 1) (; (p (n 3)) (r (p (0)))))");
        Contextwright x = ran(99, "(b (; (L 0 (n 1)) (r (L 1 (n 2)))))");
        Checks.due("leaving the main node", x.ending() + " " + x.lent() + x.givenBack() + x.variable(0) + x.variable(1), "e 2200");
        Checks.dueCall("leaving the main node, died", () -> x.died(), NSEE);
    }

    private static Contextwright withNumberAndPrint(char kind, int a, int b) {
        Contextwright x = new Contextwright();
        int number = Checks.add(x, "(n 5)");
        int node = x.addNode(kind, a, b, 0);
        x.setSub(0, Checks.add(x, "(@ 0)"));
        x.setSub(1, node);
        int call = kind == 'r' ? Checks.add(x, "(c 1 -1)") : node;
        x.setMain(x.addNode('p', x.addNode('+', call, number, 0), 0, 0));
        x.run(false, 99);
        return x;
    }

    private static void partsNumberedZero() {
        Checks.due("m with the part 0", Checks.prints(withNumberAndPrint('m', 0, 0)), "10");
        Checks.due("L with the part 0", Checks.prints(withNumberAndPrint('L', 0, 0)), "10");
        Checks.due("c with the part 0", Checks.prints(withNumberAndPrint('c', 0, 0)), "10");
        Checks.due("r with the part 0", Checks.prints(withNumberAndPrint('r', 0, 0)), "10");
        Contextwright x = new Contextwright();
        x.setMain(x.addNode('B', 0, 0, 0));
        Checks.due("the main node 0", x.run(false, 5) + " " + x.died() + " " + x.thinShare(), "d 902 1.0");
        Checks.due("the main node 0 is consistent", x.isConsistent(), true);
    }

    private static void throwing() {
        does("e ", "(p (v (d (n 1))))");
        does("e - 1", "(; (: (x 0) (v (d (n 1)))) (p (, (x 0) (g 3))))");
        does("e 3 4", "(p (v (, (n 3) (n 4))))");
        does("e 4", "(p (+ (v (, (n 3) (n 4))) (n 0)))");
        does("e 6 0", "(; (v (+ (d (n 6)) (p (n 1)))) (p (, (g 3) (g 0))))");
        does("e 2", "(; (v (; (v (d (n 1))) (d (n 2)))) (p (g 3)))");
        does("e 5", "(; (v (c 0 -1)) (p (g 3)))", "(f 0 (n 1) (b (c 1 -1)))", "(d (n 5))");
        does("e 900", "(; (v (E (n 44))) (p (g 3)))");
        does("e -", "(; (v (d (0))) (p (g 3)))");
        does("d 1", "(; (p (n 1)) (; (d (n 2)) (p (n 3))))");
        dies(7, "(d (d (n 7)))");
        dies(7, "(; (v (n 3)) (d (n 7)))");
    }
}
