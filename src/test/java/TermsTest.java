/** The sentences of the Terms on values, programs, names and asking that name a boundary case, one by one. */
public final class TermsTest {
    private static final int MIN = Integer.MIN_VALUE;
    private static final int MAX = Integer.MAX_VALUE;
    private static final String SET_FIRST_ARGUMENT = "(: (@ 0) (n 8))";
    private static final String FILL = "(: (E (n 29)) (n 5))";
    private static final String FILL_WITH_INDEXES = "(l (< (A) (n 30)) (: (E (A)) (A)))";

    public static void main(String[] args) {
        values();
        nothingForOne();
        programs();
        names();
        asking();
        leaves();
        elements();
        sums();
        choicesAndRows();
        assignments();
        listsThatAreTooShortOrTooLong();
        blocksAndSlots();
        loans();
        loops();
        calls();
        waysOut();
        thingsAndPrints();
        Checks.end("TermsTest");
    }

    private static void does(String want, String main, String... subs) {
        Checks.does(want, main, subs);
    }

    private static void dies(int want, String main, String... subs) {
        Checks.dies(want, main, subs);
    }

    private static void steps(int want, String main, String... subs) {
        Checks.due("steps of " + main, Checks.ran(2000, main, subs).steps(), want);
    }

    private static void elementsBehind(String want, String main) {
        Checks.due("elements behind " + main, Checks.elements(Checks.ran(2000, main)), want);
    }

    // ---- values

    private static void prints(String want, String main, int... numbers) {
        for (boolean isThinned : new boolean[] {false, true}) {
            Contextwright x = Checks.program(main);
            for (int i = 0; i < numbers.length; i++) {
                x.setVariable(i, numbers[i]);
            }
            x.run(isThinned, 2000);
            Checks.due((isThinned ? "thinned " : "") + main, Checks.prints(x), want);
        }
    }

    private static void values() {
        Checks.sentence("a number (an int, with which is reckoned as Java does)");
        prints(MIN + " " + MAX + " " + MIN + " 1 0",
            "(p (, (+ (g 0) (n 1)) (, (- (g 1) (n 1)) (, (* (g 1) (n -1)) (, (* (g 0) (g 0)) (+ (g 1) (g 1)))))))", MAX, MIN);
        prints("1 0 0 1 1 0", "(p (, (< (g 1) (g 0)) (, (< (g 0) (g 1)) (, (< (g 0) (g 0)) "
            + "(, (< (g 1) (n 1)) (, (q (g 1) (g 1)) (q (g 0) (g 1))))))))", MAX, MIN);
        prints("" + 998001 * 998001, "(p (* (* (n 999) (n 999)) (* (n 999) (n 999))))");
        Checks.sentence("As a number, nothing is 0, and the thing with the number k is 1000000 plus k.");
        does("e 7 0 -3 1 1 1", "(p (, (+ (0) (n 7)) (, (* (x 0) (n 5)) (, (- (x 0) (n 3)) "
            + "(, (< (n -1) (0)) (, (< (0) (n 1)) (q (0) (n 0))))))))");
        does("e 1000000 1000001 1", "(p (, (+ (o -1) (n 0)) (, (+ (n 0) (o -1)) (q (o -1) (+ (n 2) (* (n 500) (* (n 500) (n 4))))))))");
        Checks.sentence("A value is true if it is a thing, or a number other than 0.");
        prints("1 1 0 0 0 0 0", "(p (, (! (0)) (, (! (n 0)) (, (! (n 1)) (, (! (n -1)) (, (! (g 0)) (, (! (g 1)) (! (o -1)))))))))",
            MAX, MIN);
        prints("2 2 1 1 1 1", "(p (, (? (0) (n 1) (n 2)) (, (? (n 0) (n 1) (n 2)) (, (? (n 1) (n 1) (n 2)) "
            + "(, (? (n -1) (n 1) (n 2)) (, (? (g 1) (n 1) (n 2)) (? (o -1) (n 1) (n 2))))))))", MAX, MIN);
        prints("4 4", "(; (l (0) (p (n 3))) (; (l (n 0) (p (n 3))) (; (l (n -1) (; (p (n 4)) (B))) (l (o -1) (; (p (n 4)) (B))))))");
        Checks.sentence("A place holds a value, nothing at first");
        does("e - - - - - -", "(p (, (x 0) (, (x 1) (, (x 2) (, (x 3) (, (x 4) (x 5)))))))");
        does("e - - 5", "(; (: (E (n 2)) (n 5)) (p (A)))");
        Checks.sentence("to alias a place is to be that place");
        does("e 8", "(; (c 0 (x 2)) (p (x 2)))", SET_FIRST_ARGUMENT);
        does("e 9", "(; (c 0 (x 2)) (p (g 0)))", "(; (: (@ 0) (n 9)) (: (g 0) (@ 0)))");
        Checks.sentence("Things are numbered from 0 in the order in which they are made in a run.");
        Contextwright x = Checks.program("(p (, (o -1) (, (o -1) (o -1))))");
        for (int i = 0; i < 3; i++) {
            x.run(i == 1, 99);
            Checks.due("things of each run", Checks.prints(x), "1000000 1000001 1000002");
        }
    }

    /** Whatever gives nothing gives it in its own place: what is given next is not taken for it. */
    private static void nothingForOne() {
        Checks.sentence("As a number, nothing is 0");
        String[] nothings = {"(0)", "(x 0)", "(@ 0)", "(E (n 0))", "(c 0 -1)", "(c 1 (n 4))", "(c 2 -1)", "(c 3 -1)", "(b (0))",
            "(v (0))", "(v (d (n 4)))", "(v (+ (n 3) (d (n 4))))", "(f 0 (n 4) (n 4))", "(f 0 (0) (n 4))", "(f 0 (n 4) (B))", "(l (n 0) (n 4))",
            "(l (n 1) (B))", "(m 0 -1)", "(L 0 -1)", "(: (x 0) (0))", "(k (x 0))", "(? (n 1) (0) (n 4))", "(, (n 4) (0))", "(; (n 4) (0))"};
        for (String nothing : nothings) {
            does("e -5 5", "(; (p (- WHAT (n 5))) (p (- (n 5) WHAT)))".replace("WHAT", nothing), "", "(r -1)", "(+ (n 4) (r -1))", "(r (0))");
        }
    }

    // ---- programs

    /** A program of 48 nodes, each of which but the first has the one ahead of it as its part. */
    private static Contextwright deep(char first, int a, int b) {
        Contextwright x = new Contextwright();
        x.addNode(first, a, b, 0);
        for (int i = 1; i < 48; i++) {
            Checks.due("number of node " + i, x.addNode('!', i - 1, 0, 0), i);
        }
        x.setMain(47);
        return x;
    }

    private static void programs() {
        Checks.sentence("There are at most 48 nodes, numbered from 0");
        Contextwright x = deep('n', 0, 0);
        Checks.due("run through 48 nodes", x.run(false, 48) + " " + x.steps(), "e 48");
        Checks.due("run with a step too few", x.run(false, 47) + " " + x.steps(), "l 47");
        Checks.due("48 nodes thinned to one", x.run(true, 1) + " " + x.thinnedSize(47) + " " + x.size(47), "e 1 48");
        // As many nodes under way at once as there can be: those of the main node and of six subs.
        x = deep('c', 0, -1);
        x.setSub(0, 47);
        Checks.due("48 nodes in seven", x.run(false, 2000) + " " + x.steps() + " " + x.died(), "d 336 901");
        x.setSub(0, -1);
        Checks.due("48 nodes once", x.run(false, 2000) + " " + x.steps(), "e 48");
        x = new Contextwright();
        x.addNode('c', 0, -1, 0);
        x.addNode('v', 0, 0, 0);
        for (int i = 2; i < 47; i++) {
            x.addNode('!', i - 1, 0, 0);
        }
        x.setMain(x.addNode('p', 46, 0, 0));
        x.setSub(0, 47);
        x.run(false, 2000);
        Checks.due("48 nodes in seven, each of which goes on", x.ending() + " " + x.steps() + " " + Checks.prints(x), "e 336 1 0 0 0 0 0 0");
        x = deep('o', 1, 0);
        x.setSub(1, 47);
        Checks.due("destructors that make things", x.run(false, 500) + " " + x.steps() + " " + x.made() + " " + x.destroyed(), "l 500 10 10");
        Checks.sentence("each of which has a body, a node, or none at first");
        for (int sub = 0; sub < 4; sub++) {
            Checks.due("body at first", new Contextwright().setSub(sub, -1), -1);
        }
        Checks.sentence("a sub without a body does nothing, and gives nothing, and no place if asked for many");
        for (int sub = 0; sub < 4; sub++) {
            does("e ", "(p (c 0 -1))".replace("0", "" + sub));
            does("e 1 -", "(; (p (! (c 0 -1))) (; (: (E (n 0)) (c 0 (n 1))) (p (E (n 0)))))".replace("c 0", "c " + sub));
        }
        steps(1, "(c 0 -1)");
        steps(2, "(c 3 (n 4))");
        Checks.sentence("There is a main node, or none at first.");
        Checks.due("main node at first", new Contextwright().setMain(-1), -1);
    }

    // ---- names

    private static void names() {
        Checks.sentence("There are the package variables 0 to 3, each a place that has, ahead of a run, the number that was set for it");
        prints(MIN + " " + MAX + " -1 1", "(p (, (g 0) (, (g 1) (, (g 2) (g 3)))))", MIN, MAX, -1, 1);
        prints("0 0 0 0", "(p (, (g 0) (, (g 1) (, (g 2) (g 3)))))");
        Contextwright x = Checks.program("(; (p (g 0)) (: (g 0) (+ (g 0) (n 1))))");
        x.setVariable(0, 5);
        x.run(false, 99);
        x.run(false, 99);
        Checks.due("ahead of a second run", Checks.prints(x), "5");
        Checks.sentence("and the array, which has no elements ahead of a run, and at most 30, each a place");
        x = Checks.program("(; (p (+ (A) (n 0))) " + FILL + ")");
        for (int i = 0; i < 2; i++) {
            x.run(false, 99);
            Checks.due("elements ahead of a run and behind it", Checks.prints(x) + " " + x.elements(), "0 30");
        }
        x = Checks.ran(99, "(; " + FILL + " (: (A) (, (A) (A))))");
        Checks.due("elements when there are 60 values", x.elements() + " " + x.element(29), "30 5");
        Checks.sentence("it has the slots 0 to 5, each of which is a place, a fresh one at first");
        does("e 1 1", "(; (p (c 0 -1)) (p (c 0 -1)))", "(: (x 5) (+ (x 5) (n 1)))");
        does("e - - - - - -", "(; (: (, (x 0) (x 5)) (, (n 1) (n 2))) (p (c 0 -1)))",
            "(, (x 0) (, (x 1) (, (x 2) (, (x 3) (, (x 4) (x 5))))))");
        does("e 3", "(c 0 -1)", "(? (N) (: (x 0) (n 9)) (; (: (x 0) (n 3)) (; (c 0 (n 1)) (p (x 0)))))");
        does("e 4", "(; (: (x 0) (n 4)) (; (c 0 -1) (p (x 0))))", "(: (x 0) (n 9))");
        Checks.sentence("and arguments, which are places; the main node has none");
        does("e 0 - - - -", "(p (, (N) (, (@ 0) (, (@ 1) (, (@ 2) (@ 3))))))");
    }

    // ---- asking

    private static void asking() {
        partsNumberedZero();
        Checks.sentence("Asked for many, it gives places, as many as it likes; those that are told to be fresh hold the value and belong to nobody else.");
        does("e 8 1", "(c 0 (, (n 1) (n 1)))", "(; (: (@ 0) (n 8)) (p (, (@ 0) (@ 1))))");
        does("e 4 4", "(; (f 0 (, (n 3) (n 3)) (: (x 0) (+ (x 0) (n 1)))) (f 0 (, (n 3) (n 3)) (p (: (x 0) (+ (x 0) (n 1))))))");
        Checks.sentence("If only the value is told below, a node gives this, if asked for one, or a fresh place with it, if asked for many.");
        String[] values = {"(n 6)", "(+ (n 2) (n 4))", "(- (n 8) (n 2))", "(* (n 2) (n 3))", "(p (p (0)))", "(q (n 1) (n 1))", "(< (n 1) (n 2))",
            "(! (0))", "(N)", "(w)", "(k (x 0))"};
        String[] given = {"6", "6", "6", "6", "0 1", "1", "1", "1", "0", "0", "-"};
        for (int i = 0; i < values.length; i++) {
            does("e " + given[i], "(p " + values[i] + ")");
            does(i == 4 ? "e 0 8" : "e 8", "(c 0 " + values[i] + ")", "(; " + SET_FIRST_ARGUMENT + " (p (@ 0)))");
            Checks.due("elements behind " + values[i], Checks.ran(99, "(: (E (n 0)) " + values[i] + ")").elements(), 1);
        }
        Checks.sentence("\"For none, one, many\" means that a part is asked as the node itself is.");
        for (String around : new String[] {"(? (n 1) WHAT (0))", "(? (0) (0) WHAT)", "(; (0) WHAT)", "(b WHAT)", "(v WHAT)", "(c 1 -1)"}) {
            String main = "(; (p AROUND) (; (p (+ (n 0) AROUND)) (; AROUND (p (g 0)))))".replace("AROUND", around.replace("WHAT", "(c 0 -1)"));
            does("e 2 1 0", main, "(: (g 0) (w))", "(c 0 -1)");
        }
        Checks.sentence("Asked for none, it is carried out just as if asked for one, but gives nothing, unless something else is told.");
        does("e 3 4", "(; (p (n 3)) (; (! (p (n 4))) (+ (n 1) (n 2))))");
        elementsBehind("", "(; (E (n 29)) (A))");
    }

    /** The node 0 is a part like any other: only -1 is none. */
    private static void partsNumberedZero() {
        Checks.sentence("There are at most 48 nodes, numbered from 0");
        for (char kind : "mLcr".toCharArray()) {
            Contextwright x = new Contextwright();
            Checks.due("the number 5", x.addNode('n', 5, 0, 0), 0);
            x.setSub(0, x.addNode('@', 0, 0, 0));
            x.setSub(1, kind == 'r' ? x.addNode('r', 0, 0, 0) : -1);
            int told = kind == 'r' ? x.addNode('c', 1, -1, 0) : x.addNode(kind, 0, 0, 0);
            x.setMain(x.addNode('p', x.addNode('-', told, 0, 0), 0, 0));
            x.run(false, 99);
            Checks.due("the part 0 of " + kind, x.ending() + " " + Checks.prints(x), "e 0");
        }
        Contextwright x = new Contextwright();
        x.setMain(x.addNode('B', 0, 0, 0));
        Checks.due("the main node 0", x.run(false, 1) + " " + x.thinShare() + " " + x.isConsistent(), "d 1.0 true");
        x.setSub(3, 0);
        x.setMain(x.addNode('c', 3, -1, 0));
        Checks.due("the body 0", x.run(false, 2) + " " + x.died(), "d 902");
    }

    private static void leaves() {
        Checks.sentence("'n' a: the number a.");
        does("e -999 0 999", "(p (, (n -999) (, (n 0) (n 999))))");
        Checks.sentence("'0': nothing; no place, if asked for many.");
        does("e ", "(p (0))");
        does("e - 1", "(; (: (E (n 0)) (0)) (p (, (E (n 0)) (! (0)))))");
        does("e 0", "(c 0 (0))", "(p (N))");
        Checks.sentence("the number 2, 1 or 0 if the sub that is carried out (the main node: none) was asked for many, for one, or for none.");
        does("e 2 1 0", "(; (p (c 0 -1)) (; (p (+ (c 0 -1) (n 0))) (; (c 1 -1) (p (g 0)))))", "(w)", "(: (g 0) (w))");
        does("e 0 2 0", "(; (p (w)) (; (p (c 0 -1)) (p (+ (w) (n 0)))))", "(w)");
        does("e 0 5", "(; (o 0) (p (g 0)))", "(; (p (w)) (: (g 0) (n 5)))");
        does("e 1", "(; (: (x 0) (c 0 -1)) (p (x 0)))", "(b (v (w)))");
        Checks.sentence("'N': the number of arguments.");
        does("e 0 1 60", "(; (p (c 0 -1)) (; (p (c 0 (n 7))) (; " + FILL + " (p (c 0 (, (A) (A)))))))", "(N)");
        Checks.sentence("'x' a, 'g' a: what the slot a, or the package variable a, holds; asked for many, this place itself.");
        does("e 1 6 2 7", "(; (: (, (x 0) (, (x 5) (, (g 0) (g 3)))) (, (n 1) (, (n 6) (, (n 2) (n 7))))) (p (, (x 0) (, (x 5) (, (g 0) (g 3))))))");
        does("e 8 8 8 8", "(; (f 1 (, (x 0) (, (x 5) (, (g 0) (g 3)))) (: (x 1) (n 8))) (p (, (x 0) (, (x 5) (, (g 0) (g 3))))))");
        Checks.sentence("likewise the argument a; if there is none, a fresh place with nothing.");
        does("e 1 2 3 4", "(c 0 (, (n 1) (, (n 2) (, (n 3) (, (n 4) (n 5))))))", "(p (, (@ 0) (, (@ 1) (, (@ 2) (@ 3)))))");
        does("e 1 2 3 -", "(c 0 (, (n 1) (, (n 2) (n 3))))", "(p (, (@ 0) (, (@ 1) (, (@ 2) (@ 3)))))");
        does("e 5 -", "(; (p (: (@ 0) (n 5))) (p (@ 0)))");
        does("e 1 -", "(c 0 (n 1))", "(; (: (@ 1) (n 5)) (p (, (@ 0) (@ 1))))");
        Checks.sentence("'A': the number of elements of the array; asked for many, all its elements themselves.");
        does("e 0", "(; (p (+ (A) (n 0))) (p (A)))");
        does("e 30 30", "(; " + FILL + " (; (p (+ (A) (n 0))) (p (c 0 (A)))))", "(N)");
        does("e 8 8", "(; (: (A) (, (n 1) (n 2))) (; (f 0 (A) (: (x 0) (n 8))) (p (A))))");
    }

    private static void dueIndex(int index, String want) {
        String[] programs = {"(E (g 0))", "(! (E (g 0)))", "(p (E (g 0)))", "(: (E (g 0)) (n 1))", "(k (E (g 0)))",
            "(: (, (E (g 0)) (x 0)) (n 1))"};
        for (String main : programs) {
            Contextwright x = Checks.program(main);
            x.setVariable(0, index);
            x.run(false, 99);
            Checks.due(index + " in " + main, x.ending() + Checks.answer(x::died), want);
        }
    }

    private static void elements() {
        Checks.sentence("'E' a: the part a is asked for one, which as a number is an index; if it is not from 0 to 29, the value 900 is thrown");
        for (int index : new int[] {-1, 30, 31, -999, 999, 1000000, MIN, MAX}) {
            dueIndex(index, "d900");
        }
        for (int index : new int[] {0, 1, 28, 29}) {
            dueIndex(index, "eNoSuchElementException");
        }
        dies(900, "(E (o -1))");
        does("e 7", "(; (: (A) (n 7)) (p (E (x 0))))");
        does("e 900", "(; (v (E (n 30))) (p (g 3)))");
        Checks.due("no element comes into being for 900", Checks.ran(99, "(p (E (n 30)))").elements(), 0);
        Checks.sentence("What the element of the array with this index holds, or nothing if there is none");
        does("e 1 0 1", "(; (p (! (E (n 0)))) (; (: (A) (, (n 4) (n 5))) (p (, (! (E (n 1))) (! (E (n 2)))))))");
        does("e 0 4", "(; (: (g 0) (n 7)) (; (: (A) (n 4)) (p (, (+ (E (n 1)) (n 0)) (+ (E (n 0)) (n 0))))))");
        does("e 0", "(; (: (g 0) (n 7)) (p (+ (E (n 0)) (n 0))))");
        elementsBehind("", "(; (! (E (n 29))) (+ (E (n 0)) (n 1)))");
        Checks.sentence("asked for many, this place itself, and if there is none, elements with nothing come into being up to it");
        Checks.due("up to the last one", Checks.ran(99, "(p (E (n 29)))").elements(), 30);
        elementsBehind("0", "(p (E (n 0)))");
        elementsBehind("4 5 0", "(; (: (A) (, (n 4) (n 5))) (p (E (n 2))))");
        elementsBehind("4 5", "(; (: (A) (, (n 4) (n 5))) (p (E (n 1))))");
        does("e - -", "(; (p (E (n 1))) (p (E (n 0))))");
        does("e 8 2", "(; (: (A) (, (n 1) (n 2))) (; (c 0 (E (n 0))) (p (A))))", SET_FIRST_ARGUMENT);
    }

    private static void sums() {
        Checks.sentence("'+' '-' '*' a b: both parts asked for one, the first one first, and reckoned with as numbers.");
        does("e 0 -5", "(; (p (- (: (g 0) (n 5)) (g 0))) (p (- (g 1) (: (g 1) (n 5)))))");
        does("e 5 0 6", "(p (, (+ (n 0) (, (n 4) (n 5))) (, (* (0) (n 5)) (+ (0) (, (0) (n 6))))))");
        Checks.sentence("the number 1 if the first one is less as a number, or else 0");
        does("e 1 0 0", "(p (, (< (n 1) (n 2)) (, (< (n 2) (n 2)) (< (n 2) (n 1)))))");
        Checks.sentence("1 if both are equal as numbers, or else 0");
        does("e 1 0 0 1 0", "(p (, (q (n 2) (n 2)) (, (q (n 2) (n 1)) (, (q (n 1) (n 2)) (, (q (x 0) (n 0)) (q (o -1) (o -1)))))))");
        Checks.sentence("1 if the part, asked for one, is not true, or else 0");
        does("e 1 1 0", "(p (, (! (n 0)) (, (! (A)) (! (n 2)))))");
    }

    private static void choicesAndRows() {
        Checks.sentence("if it is true, the part b, otherwise c, is asked, for none, one, many");
        does("e 2", "(? (n 0) (p (n 1)) (p (n 2)))");
        does("e 1", "(? (n 1) (p (n 1)) (p (n 2)))");
        does("e 0 2", "(; (p (? (n 0) (n 1) (0))) (p (, (+ (n 0) (? (0) (n 1) (0))) (+ (n 2) (? (n 1) (0) (n 1))))))");
        steps(3, "(? (n 0) (p (n 1)) (A))");
        Checks.sentence("asked for many, what a and then b give, both asked for many; otherwise, a is asked for none, and then b for none or one");
        does("e ", "(p (, (0) (0)))");
        does("e 1 1", "(; (p (, (0) (n 1))) (p (, (n 1) (0))))");
        String tell = "(; (: (g 0) (w)) (0))";
        does("e 5 2", "(; (p (, (c 0 -1) (n 5))) (p (g 0)))", tell);
        does("e 5 2", "(; (p (, (n 5) (c 0 -1))) (p (g 0)))", tell);
        does("e 5 0", "(; (p (+ (, (c 0 -1) (n 5)) (n 0))) (p (g 0)))", tell);
        does("e 0 1", "(; (p (+ (, (n 5) (c 0 -1)) (n 0))) (p (g 0)))", tell);
        does("e 0", "(; (: (g 0) (n 9)) (; (, (n 5) (c 0 -1)) (p (g 0))))", tell);
        Checks.sentence("a is asked for none; then b is asked for none, one, many");
        does("e ", "(p (; (n 1) (0)))");
        does("e 1 1 2", "(; (p (! (; (n 1) (0)))) (p (; (0) (, (n 1) (n 2)))))");
    }

    private static void assignments() {
        Checks.sentence("b is asked for one; then the place of a is found, as if asked for many, and holds the value");
        does("e - 1", "(; (: (E (g 0)) (: (g 0) (n 1))) (p (A)))");
        elementsBehind("0 0 7", "(: (E (n 2)) (n 7))");
        does("e 2 -", "(; (: (x 0) (, (n 1) (n 2))) (; (: (x 1) (0)) (p (, (x 0) (x 1)))))");
        Checks.sentence("the node gives it, or asked for many this place");
        does("e 3", "(p (+ (: (E (n 4)) (n 3)) (n 0)))");
        does("e 8", "(; (c 0 (: (g 1) (n 3))) (p (g 1)))", SET_FIRST_ARGUMENT);
        does("e 1", "(p (! (: (g 1) (0))))");
        Checks.sentence("Otherwise b is asked for many, and the values of all its places are taken");
        does("e 2 1", "(; (: (, (x 0) (x 1)) (, (n 1) (n 2))) (; (: (, (x 0) (x 1)) (, (x 1) (x 0))) (p (, (x 0) (x 1)))))");
        does("e 2 1 2 1", "(; (: (A) (, (n 1) (n 2))) (; (: (A) (, (E (n 1)) (, (E (n 0)) (, (E (n 1)) (E (n 0)))))) (p (A))))");
        Checks.sentence("the array is asked for none and then gets all values that are left, at most 30, in fresh elements");
        does("e 2", "(; (: (A) (n 1)) (; (f 0 (A) (; (: (A) (n 2)) (: (x 0) (n 9)))) (p (A))))");
        steps(3, "(: (A) (n 1))");
        steps(5, "(: (, (x 0) (A)) (n 1))");
    }

    private static void listsThatAreTooShortOrTooLong() {
        Checks.sentence("where each place gets the next value as soon as it is found, or nothing if there are no more");
        String set = "(; (: (, (x 0) (, (x 1) (x 2))) (, (n 7) (, (n 8) (n 9)))) ";
        String all = "(p (, (x 0) (, (x 1) (x 2)))))";
        does("e - - -", set + "(; (: (, (x 0) (, (x 1) (x 2))) (0)) " + all + ")");
        does("e 1 - -", set + "(; (: (, (x 0) (, (x 1) (x 2))) (n 1)) " + all + ")");
        does("e 1 2 -", set + "(; (: (, (x 0) (, (x 1) (x 2))) (, (n 1) (n 2))) " + all + ")");
        does("e 1 2 3", set + "(; (: (, (x 0) (, (x 1) (x 2))) (, (n 1) (, (n 2) (, (n 3) (n 4))))) " + all + ")");
        does("e 0 1 2", "(; (: (, (g 0) (E (g 0))) (, (n 1) (n 2))) (p (, (n 0) (, (g 0) (E (n 1))))))");
        Checks.sentence("and the array is asked for none and then gets all values that are left, at most 30, in fresh elements");
        elementsBehind("", "(; " + FILL + " (: (A) (0)))");
        elementsBehind("", "(; " + FILL + " (: (, (x 0) (A)) (n 1)))");
        elementsBehind("2", "(; " + FILL + " (: (, (x 0) (A)) (, (n 1) (n 2))))");
        dueFilled("0 28 29 / 30 -", "(, (A) (x 0)) (A)");
        dueFilled("0 28 29 / 31 6", "(, (A) (x 0)) (, (A) (n 6))");
        dueFilled("6 27 28 / 31 29", "(, (A) (x 0)) (, (n 6) (A))");
        dueFilled("1 29 6 / 31 0", "(, (x 0) (A)) (, (A) (n 6))");
        dueFilled("1 29 0 / 60 0", "(, (x 0) (A)) (, (A) (A))");
        Checks.sentence("the node gives the number of values of b; asked for many, the places of a, with all elements of the array");
        does("e 0 3", "(; (p (+ (n 0) (: (, (x 0) (x 1)) (0)))) (p (+ (n 0) (: (, (x 0) (x 1)) (, (n 1) (, (n 2) (n 3)))))))");
        does("e ", "(p (: (A) (0)))");
        does("e - -", "(p (: (, (x 0) (, (x 1) (A))) (0)))");
        does("e 1 2 3", "(p (: (, (x 0) (A)) (, (n 1) (, (n 2) (n 3)))))");
        does("e 8 2 3", "(; (c 0 (: (A) (, (n 1) (, (n 2) (n 3))))) (p (A)))", SET_FIRST_ARGUMENT);
    }

    /** What an assignment to a list leaves in the array of thirty elements, what it gives, and the slot 0. */
    private static void dueFilled(String want, String parts) {
        Contextwright x = Checks.ran(2000, "(; " + FILL_WITH_INDEXES + " (p (, (+ (n 0) (: " + parts + ")) (x 0))))");
        Checks.due("elements behind " + parts, x.elements(), 30);
        Checks.due(parts, x.element(0) + " " + x.element(28) + " " + x.element(29) + " / " + Checks.prints(x), want);
    }

    private static void blocksAndSlots() {
        Checks.sentence("a is asked for none, one, many, and its values are given, in fresh places if asked for many; the block ends then");
        does("e ", "(p (b (0)))");
        does("e 1 1 2", "(; (p (! (b (0)))) (p (b (, (n 1) (n 2)))))");
        does("e -", "(; (c 0 (b (x 0))) (p (x 0)))", SET_FIRST_ARGUMENT);
        does("e 4 0", "(; (p (b (L 0 (n 4)))) (p (g 0)))");
        Checks.sentence("the part b, if it is not -1, is asked for one; then the slot a becomes a fresh place with this value, or nothing");
        does("e - 3", "(; (: (, (x 0) (x 5)) (, (n 1) (n 2))) (; (m 0 -1) (; (m 5 (n 3)) (p (, (x 0) (x 5))))))");
        does("e 2", "(; (m 0 (, (n 1) (n 2))) (p (x 0)))");
        does("e 5", "(c 0 (: (x 1) (n 5)))", "(; (f 0 (@ 0) (; (m 0 -1) (: (x 0) (n 6)))) (p (@ 0)))");
        steps(1, "(m 0 -1)");
        Checks.sentence("the node gives the value, or asked for many this place");
        does("e 1 4", "(p (, (! (m 0 -1)) (+ (m 0 (n 4)) (n 0))))");
        does("e 8", "(; (c 0 (m 5 -1)) (p (x 5)))", SET_FIRST_ARGUMENT);
    }

    private static void loans() {
        Checks.sentence("likewise, then the package variable a holds this value until the innermost block, try, sub or the main node that is carried out ends");
        does("e - 9", "(; (: (g 0) (n 9)) (; (b (; (L 0 -1) (p (g 0)))) (p (g 0))))");
        does("e 4 9", "(; (: (g 3) (n 9)) (; (v (; (L 3 (n 4)) (p (g 3)))) (p (g 3))))");
        does("e 4 9", "(; (: (g 3) (n 9)) (; (c 0 -1) (p (g 3))))", "(; (L 3 (n 4)) (p (g 3)))");
        does("e 4 4", "(; (f 0 (, (n 1) (n 2)) (L 0 (n 4))) (; (p (g 0)) (p (g 0))))");
        Checks.due("until the main node ends", Checks.variables(Checks.ran(99, "(; (L 0 (n 4)) (: (g 1) (g 0)))")), "0 4 0 0");
        does("e 4 8", "(; (p (+ (L 0 (n 4)) (n 0))) (; (c 0 (L 0 (n 4))) (p (g 0))))", SET_FIRST_ARGUMENT);
        Checks.due("not lent", Checks.ran(99, "(; (m 0 (n 4)) (b (n 1)))").lent(), 0);
    }

    private static void loops() {
        Checks.sentence("for each of the places, the slot a is this place, and c is asked for none; at the end, on whichever way, the slot a is the place that it was before");
        does("e 9", "(; (: (x 0) (n 9)) (; (f 0 (0) (p (n 1))) (p (x 0))))");
        does("e 1 9", "(; (: (x 0) (n 9)) (; (f 0 (n 1) (p (x 0))) (p (x 0))))");
        does("e 9", "(; (: (x 5) (n 9)) (; (f 5 (, (n 1) (n 2)) (m 5 (n 3))) (p (x 5))))");
        does("e 9", "(; (: (x 0) (n 9)) (; (f 0 (, (n 1) (n 2)) (B)) (p (x 0))))");
        does("e 9", "(; (: (x 0) (n 9)) (; (v (f 0 (, (n 1) (n 2)) (d (n 1)))) (p (x 0))))");
        does("e 9", "(; (: (x 0) (n 9)) (; (v (f 0 (d (n 1)) (A))) (p (x 0))))");
        does("e 9", "(; (: (x 0) (n 9)) (; (f 0 (v (f 1 (d (n 1)) (A))) (A)) (p (x 0))))");
        does("e 8", "(; (f 0 (x 1) (; (: (x 0) (n 8)) (m 0 (n 3)))) (p (x 1)))");
        steps(2, "(f 0 (0) (p (n 1)))");
        Contextwright x = Checks.ran(2000, "(; " + FILL + " (f 0 (A) (: (g 0) (+ (g 0) (n 1)))))");
        Checks.due("thirty places", x.variable(0), 30);
        does("e 0", "(; (: (g 0) (n 7)) (; (f 0 (n 1) (c 0 -1)) (p (g 0))))", "(: (g 0) (w))");
        Checks.sentence("It gives nothing; no place.");
        does("e 1", "(; (p (f 0 (n 1) (n 2))) (p (! (f 0 (n 1) (n 2)))))");
        Checks.sentence("as long as a, asked for one, is true, b is asked for none");
        steps(2, "(l (0) (p (n 1)))");
        steps(2, "(l (n 0) (p (n 1)))");
        does("e 0 1 2", "(l (< (g 0) (n 3)) (; (p (g 0)) (: (g 0) (+ (g 0) (n 1)))))");
        does("e 0 1", "(; (l (< (g 0) (n 1)) (c 0 -1)) (; (l (c 1 -1) (n 1)) (p (g 1))))", "(; (p (w)) (: (g 0) (n 1)))",
            "(; (: (g 1) (w)) (n 0))");
        does("e 1", "(; (p (l (n 0) (n 2))) (p (! (l (x 0) (n 2)))))");
    }

    private static void calls() {
        Checks.sentence("the part b, if it is not -1, is asked for many, which gives the arguments");
        does("e 0 0 2", "(; (p (c 0 -1)) (; (p (c 0 (0))) (p (c 0 (, (n 1) (n 2))))))", "(N)");
        does("e 4 1", "(c 0 (n 4))", "(; (v (c 1 (d (n 1)))) (p (, (@ 0) (N))))");
        does("e 4 1", "(c 0 (n 4))", "(; (f 0 (n 1) (c 1 (B))) (p (, (@ 0) (N))))", "(p (n 7))");
        Checks.sentence("if 6 subs are being carried out then, the value 901 is thrown");
        String down = "(; (: (g 0) (+ (g 0) (n 1))) (? (< (g 0) (g 1)) (c 0 -1) (p (g 0))))";
        for (int depth = 5; depth <= 7; depth++) {
            Contextwright x = Checks.program("(c 0 -1)", down);
            x.setVariable(1, depth);
            x.run(false, 500);
            Checks.due(depth + " subs", x.ending() + " " + Checks.prints(x), depth < 7 ? "e " + depth : "d ");
        }
        dies(901, "(c 0 -1)", "(c 1 -1)", "(b (c 2 -1))", "(b (r (c 0 -1)))");
        does("e 6 6", "(; (v (c 0 -1)) (; (p (g 2)) (; (: (g 2) (0)) (; (v (c 0 -1)) (p (g 2))))))", "(; (: (g 2) (+ (g 2) (n 1))) (c 0 -1))");
        does("e 3 901", "(; (v (c 0 -1)) (p (g 3)))",
            "(; (: (g 0) (+ (g 0) (n 1))) (? (< (g 0) (n 6)) (c 0 -1) (c 1 (p (n 3)))))");
        Checks.sentence("its values are given, in fresh places if asked for many; the sub ends then");
        does("e ", "(p (c 0 -1))", "(0)");
        does("e 5 0", "(; (p (c 0 -1)) (p (g 0)))", "(L 0 (n 5))");
        does("e 0", "(; (c 1 (c 0 -1)) (p (g 0)))", "(g 0)", SET_FIRST_ARGUMENT);
    }

    private static void waysOut() {
        Checks.sentence("and the sub ends, giving this, or, for -1, nothing, and no place if asked for many");
        does("e 0 1", "(; (p (c 0 -1)) (; (p (c 1 (c 0 -1))) (; (c 0 -1) (p (! (c 0 -1))))))", "(; (r -1) (p (n 7)))", "(N)");
        does("e 1 2", "(p (c 0 -1))", "(+ (n 1) (r (, (n 1) (n 2))))");
        does("e ", "(p (c 0 -1))", "(, (n 5) (r (0)))");
        does("e 5 6 0", "(; (p (c 0 -1)) (p (g 0)))", "(b (; (L 0 (n 5)) (v (; (: (x 0) (n 6)) (r (, (g 0) (x 0)))))))");
        does("e 0", "(; (c 0 -1) (p (g 0)))", "(r (, (n 1) (; (: (g 0) (w)) (n 3))))");
        Checks.sentence("in the main node, which is asked for none, this ends");
        does("e 3", "(; (p (n 3)) (; (r -1) (p (n 4))))");
        does("e 3", "(v (l (n 1) (b (r (p (n 3))))))");
        Checks.sentence("if there is none, the value 902 is thrown");
        dies(902, "(B)");
        dies(902, "(; (f 0 (n 1) (n 1)) (; (l (n 0) (n 1)) (B)))");
        dies(902, "(; (l (< (g 0) (n 2)) (: (g 0) (+ (g 0) (n 1)))) (B))");
        dies(902, "(; (f 0 (, (n 1) (n 2)) (n 1)) (B))");
        dies(902, "(; (; (l (n 1) (B)) (f 0 (n 1) (B))) (B))");
        dies(902, "(; (v (l (n 1) (d (n 1)))) (; (v (f 0 (n 1) (d (n 1)))) (B)))");
        dies(902, "(; (c 0 -1) (c 1 -1))", "(l (n 1) (f 0 (n 1) (r -1)))", "(B)");
        dies(902, "(f 0 (n 1) (c 0 -1))", "(B)");
        dies(902, "(l (n 1) (c 0 -1))", "(b (r (B)))");
        does("e 902", "(; (v (B)) (p (g 3)))");
        does("e 1 0", "(; (f 0 (n 1) (; (o 0) (p (n 1)))) (p (g 3)))", "(; (B) (p (n 5)))");
        Checks.sentence("ends the innermost loop of 'f' or 'l' that is carried out in the sub, or the main node");
        does("e 1 1 2", "(; (f 0 (, (n 1) (n 2)) (; (l (n 1) (; (p (n 1)) (B))) (n 0))) (p (n 2)))");
        does("e 1 2", "(; (l (n 1) (; (f 0 (, (n 1) (n 2)) (; (p (n 1)) (B))) (B))) (p (n 2)))");
        Checks.sentence("the part a is asked for one, and its value is thrown");
        does("e - 1000000", "(; (v (d (0))) (; (p (g 3)) (; (v (d (o -1))) (p (g 3)))))");
        Checks.sentence("'v' a: a try: a is asked for none, one, many, and its values are given as by a block; the try ends then.");
        does("e ", "(p (v (0)))");
        does("e 3 4 4", "(; (p (v (, (n 3) (n 4)))) (p (+ (v (, (n 3) (n 4))) (n 0))))");
        does("e 4 0 -", "(; (p (v (L 0 (n 4)))) (; (p (g 0)) (; (c 0 (v (x 0))) (p (x 0)))))", SET_FIRST_ARGUMENT);
        Checks.sentence("If a value is thrown in it, that ends the try, and behind that end, also if it was lent in it, the package variable 3 holds the value, and the node gives nothing; no place.");
        does("e 6", "(; (v (; (L 3 (n 4)) (d (n 6)))) (p (g 3)))");
        does("e 1 6", "(; (p (v (, (n 1) (d (n 6))))) (p (, (! (v (d (n 6)))) (g 3))))");
        does("e 7", "(; (: (g 3) (n 7)) (; (v (; (L 3 (n 4)) (n 5))) (p (g 3))))");
        does("e 2", "(; (v (; (v (d (n 1))) (d (n 2)))) (p (g 3)))");
    }

    private static void thingsAndPrints() {
        Checks.sentence("makes a thing, whose destructor is the sub a, or none for -1; the node gives it");
        Contextwright x = Checks.ran(99, "(; (o -1) (; (o 0) (; (o 3) (p (o 1)))))", "(n 1)", "", "", "(p (n 9))");
        Checks.due("things made", x.made() + " " + x.destroyed() + " " + Checks.prints(x), "4 3 9 1000003");
        Checks.sentence("its place is found as if asked for many, and holds weakly what it holds; the node gives the value");
        does("e 4 4", "(; (: (x 2) (n 4)) (p (, (k (x 2)) (x 2))))");
        does("e - -", "(p (, (k (x 0)) (k (@ 3))))");
        elementsBehind("0 0 0", "(k (E (n 2)))");
        does("e 1000000 -", "(; (: (x 0) (o -1)) (; (p (k (x 0))) (p (x 0))))");
        does("e - 1000001", "(c 0 (, (o -1) (o -1)))", "(; (k (@ 0)) (p (, (@ 0) (@ 1))))");
        does("e -", "(; (: (x 0) (o -1)) (; (k (x 0)) (; (k (x 0)) (p (x 0)))))");
        Checks.sentence("a number, or 1000000 plus the number of a thing, or -1000000 for nothing; the node gives the number of places");
        does("e -5 1000000 - 3", "(p (+ (n 0) (p (, (n -5) (, (o -1) (x 0))))))");
        does("e 0", "(p (p (0)))");
        x = Checks.ran(99, "(p (x 0))");
        Checks.due("nothing printed", x.printedAt(0), -1000000);
    }
}
