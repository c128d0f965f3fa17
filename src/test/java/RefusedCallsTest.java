/**
 * The calls that the document refuses, at their edges: each throws what is listed, what is listed first if
 * several conditions hold, and changes nothing: all later answers are those of an object without that call.
 */
public final class RefusedCallsTest {
    private static final String KINDS = "n0wNxg@AE+-*<q!?,;:bmLflcrBdvokp";
    private static final String ONE_PLACE = "xg@E";
    private static final String IAE = "IllegalArgumentException";
    private static final String IOOBE = "IndexOutOfBoundsException";
    private static final String ISE = "IllegalStateException";
    private static final String NSEE = "NoSuchElementException";
    private static final String AE = "ArithmeticException";
    private static final int[] FAR = {Integer.MIN_VALUE, Integer.MIN_VALUE + 1, -1000, 1000, 65536, Integer.MAX_VALUE};

    interface Maker {
        Contextwright make();
    }

    interface Refused {
        Object call(Contextwright x);
    }

    public static void main(String[] args) {
        manyRefusedCalls();
        noSuchKind();
        numbersOutOfRange();
        numbersThatAreNotTold();
        noSuchPart();
        noneAsAPart();
        noRoomForANode();
        kindsThatAPartCannotBe();
        addNodeListedFirst();
        subsAndNodesThatAreNot();
        mainNodesThatAreNot();
        variablesThatAreNot();
        nodesThatAreNot();
        runsThatCannotBe();
        resultsOfNoRun();
        resultsThatAreNot();
        sharesAndMeansThatAreNot();
        Checks.end("RefusedCallsTest");
    }

    // ---- objects on which calls are refused

    private static Contextwright anew() {
        return new Contextwright();
    }

    /** Fourteen nodes: 0 a number, 3 a slot, 5 an element, 7 a comma of places, 8 a comma of other things. */
    private static Contextwright notRun() {
        Contextwright x = new Contextwright();
        x.addNode('n', 1, 0, 0);
        x.addNode('g', 1, 0, 0);
        x.addNode('o', 2, 0, 0);
        x.addNode('x', 0, 0, 0);
        x.addNode('A', 0, 0, 0);
        x.addNode('E', 0, 0, 0);
        x.addNode('L', 2, 0, 0);
        x.addNode(',', 3, 4, 0);
        x.addNode(',', 1, 2, 0);
        x.addNode('p', 8, 0, 0);
        x.addNode(':', 5, 6, 0);
        x.addNode(';', 10, 9, 0);
        x.addNode('+', 0, 0, 0);
        x.addNode(';', 11, 12, 0);
        x.setMain(13);
        x.setSub(2, 12);
        x.setSub(3, 9);
        x.setVariable(1, 77);
        x.setVariable(3, -5);
        return x;
    }

    private static Contextwright hasRun() {
        Contextwright x = notRun();
        x.run(false, 30);
        return x;
    }

    private static Contextwright full() {
        Contextwright x = notRun();
        for (int i = x.nodes(); i < 48; i++) {
            x.addNode('!', i - 1, 0, 0);
        }
        return x;
    }

    private static Contextwright withoutMainNode() {
        Contextwright x = hasRun();
        x.setMain(-1);
        return x;
    }

    // ---- what an object answers to all calls, well below 512 of them

    private static String everything(Contextwright x) {
        StringBuilder text = new StringBuilder();
        int nodes = x.nodes();
        for (int i = 0; i < nodes; i++) {
            text.append(x.size(i)).append(x.thinnedKind(i)).append(x.thinnedSize(i)).append(' ');
        }
        for (int i = 0; i < 4; i++) {
            int body = x.setSub(i, -1);
            int number = x.setVariable(i, 0);
            x.setSub(i, body);
            x.setVariable(i, number);
            text.append(body).append('/').append(number).append(' ');
        }
        int main = x.setMain(-1);
        x.setMain(main);
        text.append(main).append(' ').append(Checks.answer(x::thinShare)).append(results(x));
        text.append(" consistent ").append(x.isConsistent());
        text.append(" run ").append(Checks.answer(() -> x.run(false, 2000))).append(results(x));
        return text.append(" add ").append(Checks.answer(() -> x.addNode('n', 0, 0, 0))).toString();
    }

    private static String results(Contextwright x) {
        StringBuilder text = new StringBuilder(" all ").append(x.allSteps());
        if (Checks.answer(x::ending).length() > 1) {
            return text.append(" nothing was run").toString();
        }
        text.append(' ').append(x.ending()).append(x.steps()).append(" died ").append(Checks.answer(x::died));
        text.append(" printed ").append(Checks.prints(x)).append(" mean ").append(Checks.answer(x::meanPrinted));
        text.append(" behind ").append(Checks.variables(x)).append(" / ").append(Checks.elements(x));
        text.append(" lent ").append(x.lent()).append(x.givenBack()).append(" things ").append(x.made());
        return text.append(' ').append(x.destroyed()).append(' ').append(Checks.ranks(x)).toString();
    }

    private static void refused(String want, Maker maker, String what, Refused refused) {
        Contextwright x = maker.make();
        Checks.due(what, Checks.answer(() -> refused.call(x)), want);
        Checks.due("all answers behind " + what, everything(x), everything(maker.make()));
    }

    private static void refusedNode(String want, Maker maker, char kind, int a, int b, int c) {
        refused(want, maker, "addNode " + (int) kind + " " + a + " " + b + " " + c, x -> x.addNode(kind, a, b, c));
    }

    private static void taken(char kind, int a, int b, int c) {
        Contextwright x = notRun();
        Checks.dueCall("addNode " + kind + " " + a + " " + b + " " + c, () -> x.addNode(kind, a, b, c), 14);
        Checks.due("nodes behind it", x.nodes(), 15);
    }

    /** All kinds of refused calls on one object, which is as it was behind all of them. */
    private static void manyRefusedCalls() {
        Checks.sentence("A method that throws an exception changes nothing.");
        Refused[] programs = {x -> x.addNode('z', 0, 0, 0), x -> x.addNode('n', 1000, 0, 0), x -> x.addNode('p', 48, 0, 0),
            x -> x.addNode(':', 0, 0, 0), x -> x.addNode('k', 4, 0, 0), x -> x.setSub(4, 0), x -> x.setSub(0, 48), x -> x.setMain(48),
            x -> x.setMain(-2), x -> x.setVariable(4, 9), x -> x.thinnedKind(48), x -> x.thinnedSize(-1), x -> x.size(48)};
        Refused[] runs = {x -> x.run(false, 0), x -> x.run(true, 2001), x -> x.printedAt(99), x -> x.variable(4), x -> x.element(30),
            x -> x.gone(99), x -> x.died()};
        Maker[] makers = {RefusedCallsTest::anew, RefusedCallsTest::notRun, RefusedCallsTest::hasRun, RefusedCallsTest::full,
            RefusedCallsTest::withoutMainNode};
        for (Maker maker : makers) {
            Contextwright x = maker.make();
            for (Refused[] calls : new Refused[][] {programs, runs, programs}) {
                for (Refused refused : calls) {
                    Checks.due("whether it is refused", Checks.answer(() -> refused.call(x)).endsWith("Exception"), true);
                }
            }
            Checks.due("all answers behind many refused calls", everything(x), everything(maker.make()));
        }
    }

    // ---- addNode

    private static void noSuchKind() {
        Checks.sentence("Throws `IllegalArgumentException` if there is no such kind");
        refusedNode(IAE, RefusedCallsTest::notRun, 'M', 0, 0, 0);
        refusedNode(IAE, RefusedCallsTest::anew, 'D', 0, 0, 0);
        for (int first = 0; first < 65536; first += 256) {
            Contextwright x = new Contextwright();
            for (int i = first; i < first + 256; i++) {
                char kind = (char) i;
                if (KINDS.indexOf(kind) < 0) {
                    Checks.dueCall("addNode of kind " + i, () -> x.addNode(kind, 0, 0, 0), IAE);
                }
            }
            Checks.due("nodes behind kinds from " + first, x.nodes(), 0);
        }
    }

    /** Both edges of a first number, and what lies beyond them; b and c are as the kind takes them. */
    private static void range(char kind, int least, int most, int b, int c) {
        taken(kind, least, b, c);
        taken(kind, most, b, c);
        refusedNode(IAE, RefusedCallsTest::notRun, kind, least - 1, b, c);
        refusedNode(IAE, RefusedCallsTest::notRun, kind, most + 1, b, c);
        for (int far : FAR) {
            refusedNode(IAE, RefusedCallsTest::notRun, kind, far, b, c);
        }
    }

    private static void numbersOutOfRange() {
        Checks.sentence("for 'n' -999 to 999");
        range('n', -999, 999, 0, 0);
        Checks.sentence("for '@' 0 to 3");
        range('@', 0, 3, 0, 0);
        Checks.sentence("for slots, package variables and subs as they are there");
        range('x', 0, 5, 0, 0);
        range('m', 0, 5, -1, 0);
        range('m', 0, 5, 0, 0);
        range('f', 0, 5, 0, 0);
        range('g', 0, 3, 0, 0);
        range('L', 0, 3, -1, 0);
        range('L', 0, 3, 0, 0);
        range('c', 0, 3, -1, 0);
        range('c', 0, 3, 0, 0);
        Checks.sentence("for the destructor also -1");
        range('o', -1, 3, 0, 0);
    }

    private static void numbersThatAreNotTold() {
        Checks.sentence("or one that is not told is not 0");
        for (int wrong : new int[] {-1, 1, Integer.MIN_VALUE, Integer.MAX_VALUE}) {
            for (char kind : "0wNAB".toCharArray()) {
                refusedNode(IAE, RefusedCallsTest::notRun, kind, wrong, 0, 0);
            }
            for (char kind : "0wNABnxg@oE!bdvkpr".toCharArray()) {
                int a = "bdvkp".indexOf(kind) >= 0 ? 3 : 0;
                refusedNode(IAE, RefusedCallsTest::notRun, kind, a, wrong, 0);
            }
            for (char kind : "0wNABnxg@oE!bdvkpr+-*<q,;:lmLc".toCharArray()) {
                refusedNode(IAE, RefusedCallsTest::notRun, kind, kind == ':' || kind == 'k' ? 3 : 0, 0, wrong);
            }
        }
    }

    private static void noSuchPart() {
        Checks.sentence("Throws `IndexOutOfBoundsException` if there is no such node as a part");
        for (int no : new int[] {14, 15, 48, Integer.MAX_VALUE, -1, -2, Integer.MIN_VALUE}) {
            for (char kind : "E!bdvkp+-*<q,;:l?".toCharArray()) {
                refusedNode(IOOBE, RefusedCallsTest::notRun, kind, no, 0, 0);
            }
            for (char kind : "+-*<q,;:l?f".toCharArray()) {
                refusedNode(IOOBE, RefusedCallsTest::notRun, kind, 3, no, 0);
            }
            refusedNode(IOOBE, RefusedCallsTest::notRun, '?', 0, 0, no);
            refusedNode(IOOBE, RefusedCallsTest::notRun, 'f', 0, 0, no);
        }
        refusedNode(IOOBE, RefusedCallsTest::anew, 'p', 0, 0, 0);
        refusedNode(IOOBE, RefusedCallsTest::anew, 'r', 0, 0, 0);
        Checks.sentence("those that are told to be parts are numbers of nodes that were added before");
        for (char kind : "E!bdvp".toCharArray()) {
            taken(kind, 13, 0, 0);
        }
        taken('k', 5, 0, 0);
        taken('?', 13, 13, 13);
        taken(':', 7, 13, 0);
        taken('f', 0, 13, 13);
        taken('r', 13, 0, 0);
    }

    private static void noneAsAPart() {
        Checks.sentence("-1 stands for none where it is told");
        taken('m', 0, -1, 0);
        taken('L', 0, -1, 0);
        taken('c', 0, -1, 0);
        taken('r', -1, 0, 0);
        for (int no : new int[] {-2, 14, 48, Integer.MAX_VALUE, Integer.MIN_VALUE}) {
            refusedNode(IOOBE, RefusedCallsTest::notRun, 'm', 0, no, 0);
            refusedNode(IOOBE, RefusedCallsTest::notRun, 'L', 0, no, 0);
            refusedNode(IOOBE, RefusedCallsTest::notRun, 'c', 0, no, 0);
            refusedNode(IOOBE, RefusedCallsTest::notRun, 'r', no, 0, 0);
        }
    }

    private static void noRoomForANode() {
        Checks.sentence("Throws `IllegalStateException` if there are 48 nodes");
        Contextwright x = full();
        Checks.due("nodes of a full program", x.nodes(), 48);
        for (char kind : KINDS.toCharArray()) {
            refusedNode(ISE, RefusedCallsTest::full, kind, kind == ':' || kind == 'k' ? 3 : 0, 0, 0);
        }
        refusedNode(ISE, RefusedCallsTest::full, 'p', 47, 0, 0);
    }

    /** Adds a node of this kind, whatever it needs, and returns its number. */
    private static int addOneOf(Contextwright x, char kind) {
        return x.addNode(kind, kind == ':' || kind == 'k' ? 3 : 0, 0, 0);
    }

    private static void kindsThatAPartCannotBe() {
        Checks.sentence("or a part is of a kind that it cannot be");
        for (char kind : KINDS.toCharArray()) {
            boolean isPlace = ONE_PLACE.indexOf(kind) >= 0;
            Maker maker = () -> {
                Contextwright x = notRun();
                addOneOf(x, kind);
                return x;
            };
            if (isPlace || kind == 'A') {
                dueNode(maker, ':', 14, 0);
            } else {
                refusedNode(ISE, maker, ':', 14, 0, 0);
            }
            if (isPlace) {
                dueNode(maker, 'k', 14, 0);
            } else {
                refusedNode(ISE, maker, 'k', 14, 0, 0);
            }
            dueNode(maker, ':', 3, 14);
            dueNode(maker, 'E', 14, 0);
            dueNode(maker, 'd', 14, 0);
        }
        Checks.sentence("The part a is of the kind x, g, @, E, A or a comma of such ones.");
        Maker commas = () -> {
            Contextwright x = notRun();
            x.addNode(',', 7, 5, 0);
            x.addNode(',', 3, 14, 0);
            x.addNode(',', 15, 8, 0);
            x.addNode(',', 0, 3, 0);
            x.addNode(',', 3, 0, 0);
            return x;
        };
        for (int comma = 14; comma <= 18; comma++) {
            int a = comma;
            Contextwright x = commas.make();
            Checks.dueCall("assigns to " + a, () -> x.addNode(':', a, 0, 0), a <= 15 ? "19" : ISE);
            refusedNode(ISE, commas, 'k', a, 0, 0);
        }
    }

    private static void dueNode(Maker maker, char kind, int a, int b) {
        Contextwright x = maker.make();
        Checks.dueCall("addNode " + kind + " " + a + " " + b, () -> x.addNode(kind, a, b, 0), 15);
    }

    private static void addNodeListedFirst() {
        Checks.sentence("If several conditions for an exception hold, the exception that is listed first is thrown.");
        refusedNode(IAE, RefusedCallsTest::notRun, ':', 0, 14, 1);
        refusedNode(IOOBE, RefusedCallsTest::notRun, ':', 0, 14, 0);
        refusedNode(IAE, RefusedCallsTest::notRun, 'f', 6, 0, 14);
        refusedNode(IAE, RefusedCallsTest::notRun, 'm', -1, 14, 0);
        refusedNode(IAE, RefusedCallsTest::notRun, 'z', 14, 14, 14);
        refusedNode(IAE, RefusedCallsTest::notRun, 'k', 0, 0, 1);
        refusedNode(IAE, RefusedCallsTest::full, 'n', 1000, 0, 0);
        refusedNode(IAE, RefusedCallsTest::full, 'z', 0, 0, 0);
        refusedNode(IAE, RefusedCallsTest::full, 'p', 48, 1, 0);
        refusedNode(IOOBE, RefusedCallsTest::full, 'p', 48, 0, 0);
        refusedNode(IOOBE, RefusedCallsTest::full, ':', 0, 48, 0);
        refusedNode(ISE, RefusedCallsTest::full, ':', 0, 0, 0);
        refusedNode(ISE, RefusedCallsTest::full, 'k', 0, 0, 0);
    }

    // ---- the other calls of programs

    private static void subsAndNodesThatAreNot() {
        Checks.sentence("Throws `IndexOutOfBoundsException` if there is no such sub or node");
        for (int no : new int[] {-1, 4, 5, Integer.MIN_VALUE, Integer.MAX_VALUE}) {
            refused(IOOBE, RefusedCallsTest::hasRun, "setSub " + no, x -> x.setSub(no, 0));
            refused(IOOBE, RefusedCallsTest::hasRun, "setSub " + no + " to none", x -> x.setSub(no, -1));
            refused(IOOBE, RefusedCallsTest::hasRun, "setSub " + no + " to no node", x -> x.setSub(no, 14));
        }
        for (int no : new int[] {-2, 14, 48, Integer.MIN_VALUE, Integer.MAX_VALUE}) {
            for (int sub = 0; sub < 4; sub++) {
                int s = sub;
                refused(IOOBE, RefusedCallsTest::hasRun, "setSub " + s + " to " + no, x -> x.setSub(s, no));
            }
        }
        refused(IOOBE, RefusedCallsTest::anew, "setSub without nodes", x -> x.setSub(0, 0));
        refused(IOOBE, RefusedCallsTest::full, "setSub beyond 48 nodes", x -> x.setSub(0, 48));
    }

    private static void mainNodesThatAreNot() {
        Checks.sentence("Throws `IndexOutOfBoundsException` if there is no such node");
        for (int no : new int[] {-2, 14, 48, Integer.MIN_VALUE, Integer.MAX_VALUE}) {
            refused(IOOBE, RefusedCallsTest::hasRun, "setMain " + no, x -> x.setMain(no));
        }
        refused(IOOBE, RefusedCallsTest::anew, "setMain without nodes", x -> x.setMain(0));
        refused(IOOBE, RefusedCallsTest::full, "setMain beyond 48 nodes", x -> x.setMain(48));
    }

    private static void variablesThatAreNot() {
        Checks.sentence("Throws `IndexOutOfBoundsException` if there is no such package variable");
        for (int no : new int[] {-1, 4, Integer.MIN_VALUE, Integer.MAX_VALUE}) {
            refused(IOOBE, RefusedCallsTest::hasRun, "setVariable " + no, x -> x.setVariable(no, 9));
            refused(IOOBE, RefusedCallsTest::hasRun, "variable " + no, x -> x.variable(no));
        }
    }

    private static void nodesThatAreNot() {
        Checks.sentence("Throws `IndexOutOfBoundsException` if there is no such node");
        for (int no : new int[] {-1, 14, 48, Integer.MIN_VALUE, Integer.MAX_VALUE}) {
            refused(IOOBE, RefusedCallsTest::hasRun, "thinnedKind " + no, x -> x.thinnedKind(no));
            refused(IOOBE, RefusedCallsTest::hasRun, "thinnedSize " + no, x -> x.thinnedSize(no));
            refused(IOOBE, RefusedCallsTest::hasRun, "size " + no, x -> x.size(no));
        }
        refused(IOOBE, RefusedCallsTest::anew, "thinnedKind without nodes", x -> x.thinnedKind(0));
        refused(IOOBE, RefusedCallsTest::anew, "thinnedSize without nodes", x -> x.thinnedSize(0));
        refused(IOOBE, RefusedCallsTest::anew, "size without nodes", x -> x.size(0));
        refused(IOOBE, RefusedCallsTest::full, "thinnedKind beyond 48 nodes", x -> x.thinnedKind(48));
        refused(IOOBE, RefusedCallsTest::full, "thinnedSize beyond 48 nodes", x -> x.thinnedSize(48));
        refused(IOOBE, RefusedCallsTest::full, "size beyond 48 nodes", x -> x.size(48));
    }

    // ---- runs and what is left of them

    private static void runsThatCannotBe() {
        Checks.sentence("Throws `IllegalStateException` if there is no main node");
        for (boolean isThinned : new boolean[] {false, true}) {
            refused(ISE, RefusedCallsTest::anew, "run of a new object", x -> x.run(isThinned, 1));
            refused(ISE, RefusedCallsTest::withoutMainNode, "run without main node", x -> x.run(isThinned, 2000));
            Checks.sentence("Throws `IllegalArgumentException` if the number is out of range");
            for (int no : new int[] {0, -1, 2001, Integer.MIN_VALUE, Integer.MAX_VALUE}) {
                refused(IAE, RefusedCallsTest::notRun, "run " + no, x -> x.run(isThinned, no));
                refused(IAE, RefusedCallsTest::hasRun, "run again " + no, x -> x.run(isThinned, no));
            }
            Checks.sentence("If several conditions for an exception hold, the exception that is listed first is thrown.");
            refused(ISE, RefusedCallsTest::withoutMainNode, "run 0 without main node", x -> x.run(isThinned, 0));
            refused(ISE, RefusedCallsTest::anew, "run 2001 of a new object", x -> x.run(isThinned, 2001));
        }
    }

    private static void resultsOfNoRun() {
        Maker[] makers = {RefusedCallsTest::anew, RefusedCallsTest::notRun};
        for (Maker maker : makers) {
            Checks.sentence("Throws `IllegalStateException` if nothing was run");
            refused(ISE, maker, "ending", x -> x.ending());
            refused(ISE, maker, "printed", x -> x.printed());
            refused(ISE, maker, "printedAt", x -> x.printedAt(0));
            refused(ISE, maker, "died", x -> x.died());
            refused(ISE, maker, "steps", x -> x.steps());
            refused(ISE, maker, "variable", x -> x.variable(0));
            refused(ISE, maker, "elements", x -> x.elements());
            refused(ISE, maker, "element", x -> x.element(0));
            refused(ISE, maker, "lent", x -> x.lent());
            refused(ISE, maker, "givenBack", x -> x.givenBack());
            refused(ISE, maker, "made", x -> x.made());
            refused(ISE, maker, "destroyed", x -> x.destroyed());
            refused(ISE, maker, "gone", x -> x.gone(0));
            refused(ISE, maker, "meanPrinted", x -> x.meanPrinted());
            Checks.sentence("If several conditions for an exception hold, the exception that is listed first is thrown.");
            for (int no : new int[] {-1, 4, 30, Integer.MIN_VALUE, Integer.MAX_VALUE}) {
                refused(ISE, maker, "printedAt " + no, x -> x.printedAt(no));
                refused(ISE, maker, "variable " + no, x -> x.variable(no));
                refused(ISE, maker, "element " + no, x -> x.element(no));
                refused(ISE, maker, "gone " + no, x -> x.gone(no));
            }
        }
        Checks.sentence("which is no run by itself");
        Contextwright x = notRun();
        x.isConsistent();
        Checks.dueCall("ending behind isConsistent alone", x::ending, ISE);
    }

    /** The run behind hasRun prints two values, has two elements and makes one thing. */
    private static void resultsThatAreNot() {
        Checks.sentence("Throws `NoSuchElementException` if there is no such value");
        for (int no : new int[] {-1, 2, Integer.MIN_VALUE, Integer.MAX_VALUE}) {
            refused(NSEE, RefusedCallsTest::hasRun, "printedAt " + no, x -> x.printedAt(no));
        }
        Checks.sentence("Throws `NoSuchElementException` if none was");
        refused(NSEE, RefusedCallsTest::hasRun, "died", x -> x.died());
        Checks.sentence("Throws `NoSuchElementException` if there is no such element");
        for (int no : new int[] {-1, 2, 30, Integer.MIN_VALUE, Integer.MAX_VALUE}) {
            refused(NSEE, RefusedCallsTest::hasRun, "element " + no, x -> x.element(no));
        }
        Checks.sentence("Throws `NoSuchElementException` if there is no such thing");
        for (int no : new int[] {-1, 1, 1000000, Integer.MIN_VALUE, Integer.MAX_VALUE}) {
            refused(NSEE, RefusedCallsTest::hasRun, "gone " + no, x -> x.gone(no));
        }
        Contextwright x = hasRun();
        Checks.due("what there is", x.printedAt(0) + " " + x.printedAt(1) + " " + x.element(0) + " " + x.element(1)
            + " " + x.gone(0), "77 1000000 0 1 0");
    }

    private static void sharesAndMeansThatAreNot() {
        Checks.sentence("Throws `ArithmeticException` if there is no main node, or the plain size is 0");
        refused(AE, RefusedCallsTest::anew, "thinShare of a new object", x -> x.thinShare());
        refused(AE, RefusedCallsTest::withoutMainNode, "thinShare without main node", x -> x.thinShare());
        refused(AE, RefusedCallsTest::ofSizeZero, "thinShare of the size 0", x -> x.thinShare());
        Checks.sentence("Throws `ArithmeticException` if none was printed");
        Maker silent = () -> {
            Contextwright x = hasRun();
            x.run(false, 3);
            return x;
        };
        refused(AE, silent, "meanPrinted of none", x -> x.meanPrinted());
    }

    private static Contextwright ofSizeZero() {
        Contextwright x = new Contextwright();
        int node = x.addNode('B', 0, 0, 0);
        for (int i = 1; i < 32; i++) {
            node = x.addNode(',', node, node, 0);
        }
        x.setMain(x.addNode('d', node, 0, 0));
        return x;
    }
}
