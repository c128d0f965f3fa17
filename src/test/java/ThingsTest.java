/** Promises 21 to 23, and what the document says of things: when they are looked after, and when they are gone. */
public final class ThingsTest {
    private static final String TELL = "(p (@ 0))";

    public static void main(String[] args) {
        callsOfThings();
        goneAtOnce();
        heldByPlaces();
        heldByValuesUnderWay();
        heldByElementsOfAList();
        ranksOfSeveral();
        comingBack();
        weakPlaces();
        weakLoans();
        insideOfDestructors();
        destructorsThatFail();
        behindTheMainNode();
        overInDestructors();
        Checks.end("ThingsTest");
    }

    /** How a program ends, what it prints, and the ranks of its things. */
    private static void does(String want, String main, String... subs) {
        Contextwright x = Checks.program(main, subs);
        x.run(false, 2000);
        Checks.due(main, x.ending() + " " + Checks.prints(x) + " / " + Checks.ranks(x), want);
        Checks.due("isConsistent of " + main, x.isConsistent(), true);
    }

    private static void dueOver(String want, int steps, String main, String... subs) {
        Contextwright x = Checks.program(main, subs);
        x.run(false, steps);
        String got = x.ending() + " " + Checks.prints(x) + " / " + Checks.ranks(x) + " / " + x.destroyed();
        Checks.due(steps + " steps of " + main, got, want);
    }

    private static void callsOfThings() {
        Contextwright x = Checks.program("(; (: (x 0) (o 0)) (o -1))", TELL);
        x.run(false, 99);
        Checks.due("made", x.made(), 2);
        Checks.due("destroyed", x.destroyed(), 1);
        Checks.dueCall("gone 0", () -> x.gone(0), 1);
        Checks.dueCall("gone 1", () -> x.gone(1), 0);
        for (int no : new int[] {-1, 2, Integer.MIN_VALUE, Integer.MAX_VALUE}) {
            Checks.dueCall("gone " + no, () -> x.gone(no), "NoSuchElementException");
        }
        x.isConsistent();
        Checks.due("made behind isConsistent", x.made(), 2);
        x.run(false, 4);
        Checks.due("made in a shorter run", x.made(), 1);
        Checks.dueCall("not gone", () -> x.gone(0), -1);
        x.run(false, 1);
        Checks.due("made in the shortest run", x.made() + " " + x.destroyed(), "0 0");
        Checks.dueCall("no thing in the shortest run", () -> x.gone(0), "NoSuchElementException");
    }

    private static void goneAtOnce() {
        does("e 1000000 1 / 0", "(; (o 0) (p (n 1)))", TELL);
        does("e 1 / 0", "(; (o -1) (p (n 1)))", TELL);
        does("e 1000000 1 1000001 2 / 0 1", "(; (; (o 0) (p (n 1))) (; (o 0) (p (n 2))))", TELL);
        Contextwright x = Checks.program("(; (o 2) (o -1))");
        x.run(false, 99);
        Checks.due("a destructor without a body has run", x.destroyed() + " " + x.gone(0) + " " + x.gone(1), "1 0 1");
    }

    private static void heldByPlaces() {
        String letGo = "(; (p (n 1)) (; (: PLACE (n 5)) (p (n 2))))";
        for (String place : new String[] {"(x 0)", "(g 0)", "(E (n 1))"}) {
            String main = "(; (: PLACE (o 0)) " + letGo + ")";
            does("e 1 1000000 2 / 0", main.replace("PLACE", place), TELL);
        }
        does("e 1 1000000 2 / 0", "(; (: (A) (o 0)) (; (p (n 1)) (; (: (A) (n 4)) (p (n 2)))))", TELL);
        does("e 1 1000000 2 / 0", "(; (: (x 0) (o 0)) (; (p (n 1)) (; (m 0 -1) (p (n 2)))))", TELL);
        does("e 1 1000000 2 / 0", "(; (c 1 (o 0)) (p (n 2)))", TELL, "(p (n 1))");
        does("e 1 1000000 2 / 0", "(; (f 0 (o 0) (p (n 1))) (p (n 2)))", TELL);
        does("e 1 1 1000000 1000001 2 / 0 1", "(; (f 0 (, (o 0) (o 0)) (p (n 1))) (p (n 2)))", TELL);
        does("e 1 1000000 2 / 0", "(; (b (; (m 0 (o 0)) (p (n 1)))) (p (n 2)))", TELL);
        does("e 1 1000000 2 / 0", "(; (c 1 -1) (p (n 2)))", TELL, "(; (: (x 0) (o 0)) (p (n 1)))");
        does("e 1 1000000 2 / 0", "(; (b (; (L 0 (o 0)) (p (n 1)))) (p (n 2)))", TELL);
        // A slot that will be again, and a variable that is lent.
        does("e 1 2 1000000 / 0", "(; (: (x 0) (o 0)) (; (b (; (m 0 (n 3)) (p (n 1)))) (p (n 2))))", TELL);
        does("e 1 2 1000000 / 0", "(; (: (x 0) (o 0)) (; (f 0 (n 3) (p (n 1))) (p (n 2))))", TELL);
        does("e 5 1000000 1000000 / 0", "(; (: (g 0) (o 0)) (; (b (; (L 0 (n 5)) (p (g 0)))) (p (g 0))))", TELL);
        // Held twice.
        does("e 1 1000000 2 / 0", "(; (: (x 0) (: (g 0) (o 0))) (; (: (x 0) (n 0)) (; (p (n 1)) (; (: (g 0) (n 0)) (p (n 2))))))",
            TELL);
        does("e 3 1000000 / 0", "(; (v (d (o 0))) (p (n 3)))", TELL);
    }

    private static void heldByValuesUnderWay() {
        does("e 1000000 1000000 1 / 0", "(; (p (o 0)) (p (n 1)))", TELL);
        does("e 1 1000000 2 / 0", "(; (+ (o 0) (p (n 1))) (p (n 2)))", TELL);
        does("e 1 1000000 2 / 0", "(; (? (o 0) (p (n 1)) (0)) (p (n 2)))", TELL);
        does("e 1000000 1 2 / 0", "(; (; (o 0) (p (n 1))) (p (n 2)))", TELL);
        // The place of a list under way holds the thing although the slot has another place then.
        does("e 1 1000000 / 0", "(c 1 (, (: (x 0) (o 0)) (; (m 0 -1) (p (n 1)))))", TELL, "(0)");
        does("e 1 1000000 2 / 0", "(; (: (, (x 0) (E (p (n 1)))) (, (n 4) (o 0))) (; (: (E (n 1)) (n 0)) (p (n 2))))", TELL);
        // Values that no place gets are under way until the assignment is done.
        does("e 1 1000000 2 / 0", "(; (: (, (x 0) (E (- (p (n 1)) (n 1)))) (, (n 4) (, (n 5) (o 0)))) (p (n 2)))", TELL);
        // What a repetition asks for is not under way while it repeats.
        does("e 1000000 1 / 0", "(l (o 0) (; (p (n 1)) (B)))", "(: (g 0) (p (@ 0)))");
        does("e 1000000 / 0", "(! (o 0))", TELL);
        does("e 1 1000000 / 0", "(; (: (x 0) (c 1 -1)) (p (n 1)))", TELL, "(b (r (o 0)))");
    }

    /** While a list is gone through, its array holds a thing by its elements alone, and other places hold theirs. */
    private static void heldByElementsOfAList() {
        String put = "(: (E (n 0)) (o 0))";
        String drop = "(; PUT (; (: (A) (0)) (; (p (n 5)) (n 0))))".replace("PUT", put);
        String keep = "(; PUT (; (p (n 5)) (n 0)))".replace("PUT", put);
        does("e 1000000 5 / 0", "(: (, (A) (E DROP)) (n 0))".replace("DROP", drop), TELL);
        does("e 1000000 5 - - / 0", "(p (: (, (A) (E DROP)) (n 0)))".replace("DROP", drop), TELL);
        does("e 1000000 5 / 0", "(: (, (, (x 0) (A)) (E DROP)) (, (n 0) (n 0)))".replace("DROP", drop), TELL);
        does("e 1000000 5 / 0", "(: (, (, (A) (x 0)) (E DROP)) (n 0))".replace("DROP", drop), TELL);
        does("e 5 1000000 / 0", "(: (, (A) (E KEEP)) (n 0))".replace("KEEP", keep), TELL);
        does("e 5 1000000 / 0", "(: (, (E (n 0)) (E DROP)) (n 0))".replace("DROP", drop), TELL);
        // The value that the array got is under way in the assignment itself.
        does("e 5 1000000 / 0", "(: (, (A) (E (; (: (A) (0)) (; (p (n 5)) (n 0))))) (o 0))", TELL);
        // What the assignment gives is held by its elements and by those that are given.
        does("e 1000000 1000000 1 / 0", "(; (p (: (A) (o 0))) (; (: (A) (0)) (p (n 1))))", TELL);
        does("e 1000000 1 1000000 / 0", "(f 0 (: (A) (o 0)) (; (: (A) (0)) (; (p (x 0)) (p (n 1)))))", TELL);
    }

    private static void ranksOfSeveral() {
        String three = "(; (: (A) (, (o 0) (, (o 0) (o 0)))) ";
        does("e 1000000 1000001 1000002 1 / 0 1 2", three + "(; (: (A) (0)) (p (n 1))))", TELL);
        does("e 1000001 1 1000000 1000002 / 1 0 2", three + "(; (: (E (n 1)) (0)) (p (n 1))))", TELL);
        does("e 1000002 1000001 1000000 / 2 1 0",
            three + "(; (: (E (n 2)) (0)) (; (: (E (n 1)) (0)) (: (E (n 0)) (0)))))", TELL);
        // The destructor of the first lets go of a lower one, which is taken ahead of the last.
        does("e 1000001 1000000 1000002 / 1 0 2",
            "(; (: (g 0) (o 0)) (; (: (A) (, (o 1) (o 0))) (: (A) (0))))", TELL, "(; (p (@ 0)) (: (g 0) (0)))");
    }

    private static void comingBack() {
        String keep = "(: (g 0) (@ 0))";
        does("e 1000000 - / 0", "(; (o 0) (; (p (g 0)) (; (: (g 0) (0)) (p (g 0)))))", keep);
        Contextwright x = Checks.program("(; (o 0) (; (: (g 0) (0)) (p (n 1))))", keep);
        x.run(false, 99);
        Checks.due("a destructor runs once", x.destroyed(), 1);
        does("e 1000000 / 0", "(; (o 0) (p (g 0)))", keep);
        x.setMain(Checks.add(x, "(o 0)"));
        x.run(false, 99);
        Checks.due("held and taken behind the main node", x.destroyed() + " " + x.gone(0) + " " + x.variable(0), "1 0 1000000");
        // A thing that is held anew is not gone, and what holds it weakly goes on to do so.
        does("e 1000000 1000000 / 0", "(; (: (x 0) (o 0)) (; (: (x 1) (x 0)) (; (k (x 1)) (; (: (x 0) (0)) (p (, (x 1) (g 0)))))))", keep);
    }

    private static void weakPlaces() {
        does("e 1000000 - / 0", "(; (: (x 0) (o 0)) (; (k (x 0)) (p (x 0))))", TELL);
        does("e 1000000 - / 0", "(; (: (g 0) (o 0)) (; (k (g 0)) (p (g 0))))", "(p (g 0))");
        does("e 1000000 1000000 - / 0", "(; (: (g 0) (o 0)) (; (p (k (g 0))) (p (g 0))))", TELL);
        does("e 4 - / ", "(; (: (x 0) (n 4)) (; (k (x 0)) (; (k (x 1)) (p (, (x 0) (x 1))))))");
        does("e 1000000 / 0", "(; (: (x 0) (o 0)) (; (: (g 0) (x 0)) (; (k (x 0)) (; (: (x 1) (x 0)) (; (: (g 0) (0)) (p (x 1)))))))");
        does("e - / 0", "(; (: (x 0) (o 0)) (; (: (g 0) (x 0)) (; (k (x 0)) (; (: (g 0) (0)) (p (x 0))))))");
        does("e 1000000 / 0", "(; (: (x 0) (o 0)) (; (: (g 0) (x 0)) (; (k (g 0)) (; (: (g 0) (g 0)) (; (: (x 0) (0)) (p (g 0)))))))");
        does("e - / 0", "(; (c 1 (o -1)) (p (g 0)))", "", "(; (: (g 0) (@ 0)) (k (g 0)))");
        does("e - - / 0", "(; (: (E (n 1)) (o -1)) (; (k (E (n 1))) (p (A))))");
        does("e - / 0", "(c 1 (o -1))", "", "(; (k (@ 0)) (p (@ 0)))");
        does("e 1000000 / 0", "(; (: (x 0) (o -1)) (; (: (x 1) (k (x 0))) (p (x 0))))");
        does("e - / ", "(p (k (@ 0)))");
        does("e 3 / ", "(; (: (x 0) (n 3)) (; (c 1 (k (x 0))) (p (x 0))))", "", "(: (@ 0) (n 5))");
    }

    private static void weakLoans() {
        String made = "(; (: (x 0) (o -1)) (; (: (g 0) (x 0)) (; (k (g 0)) ";
        does("e - / 0", made + "(; (b (; (L 0 (n 5)) (: (x 0) (n 1)))) (p (g 0))))))");
        does("e 1000000 - / 0", made + "(; (b (L 0 (n 5))) (; (p (g 0)) (; (: (x 0) (n 1)) (p (g 0))))))))");
        does("e 5 1000000 / 0", made + "(; (b (; (L 0 (n 5)) (p (g 0)))) (p (g 0))))))");
        does("e 1000000 / 0", "(; (: (g 0) (o -1)) (; (b (L 0 (n 5))) (p (g 0))))");
    }

    private static void insideOfDestructors() {
        does("e 1 2 3 / 0 1", "(; (o 0) (p (n 3)))", "(; (o 1) (p (n 1)))", "(p (n 2))");
        does("e 0 1 1000000 0 / 0", "(; (o 0) (p (N)))", "(; (p (w)) (p (, (N) (@ 0))))");
        does("e 0 / 0", "(o 0)", "(c 1 -1)", "(p (w))");
        does("e 6 0 / 0", "(; (o 0) (p (g 0)))", "(; (L 0 (n 6)) (p (g 0)))");
        does("e - 4 / 0", "(; (: (x 0) (n 4)) (; (o 0) (p (x 0))))", "(p (x 0))");
        does("e 1 2 / 0", "(; (o 0) (p (n 2)))", "(; (p (n 1)) (; (r (n 1)) (p (n 5))))");
        does("e 1 1000001 2 / 0 1", "(; (o 0) (p (n 2)))", "(; (: (x 0) (o 1)) (p (n 1)))", TELL);
        Contextwright x = Checks.program("(; (o 0) (n 1))", "(o 0)");
        x.run(false, 10);
        Checks.due("things that make things", x.ending() + " " + x.made() + " " + x.destroyed(), "l 9 9");
    }

    private static void destructorsThatFail() {
        does("e 1 0 / 0", "(; (o 0) (p (, (n 1) (g 3))))", "(d (n 5))");
        does("e 1 0 / 0", "(; (v (o 0)) (p (, (n 1) (g 3))))", "(E (n 77))");
        does("e 1 0 / 0", "(; (f 0 (n 1) (o 0)) (p (, (n 1) (g 3))))", "(B)");
        does("e 0 / 0", "(; (o 0) (p (g 0)))", "(b (; (L 0 (n 1)) (d (n 5))))");
        String down = "(; (: (g 0) (+ (g 0) (n 1))) (? (< (g 0) (n 6)) (c 0 -1) (o 1)))";
        Contextwright x = Checks.program("(; (c 0 -1) (p (n 1)))", down, "(p (n 7))");
        x.run(false, 200);
        Checks.due("a destructor of a seventh sub", x.ending() + Checks.prints(x) + " " + x.destroyed() + x.gone(0), "e1 10");
        does("e 7 1 / 0", "(; (c 0 -1) (p (n 1)))", down.replace("(n 6)", "(n 5)"), "(p (n 7))");
        Contextwright y = Checks.program("(: (g 0) (o 0))", "(c 0 -1)");
        y.run(false, 200);
        Checks.due("a destructor that goes too deep", y.ending() + " " + y.steps() + " " + y.destroyed() + y.gone(0), "e 9 10");
    }

    private static void behindTheMainNode() {
        does("e 1000000 / 0", "(: (g 0) (o 0))", "(p (g 0))");
        does("e 1 1000000 1000001 1000002 / 0 1 2",
            "(; (: (, (g 1) (, (x 0) (E (n 0)))) (, (o 0) (, (o 0) (o 0)))) (p (n 1)))", TELL);
        does("e 5 1000001 / 0 1", "(: (g 0) (o 0))", "(; (o 1) (p (n 5)))", TELL);
        does("d 1000000 / 0", "(; (: (x 0) (o 0)) (d (x 0)))", TELL);
        does("e 1000000 / 0", "(; (: (x 0) (o 0)) (r -1))", TELL);
        does("e 1000000 1000000 1000001 1000000 / 0 1", "(: (A) (, (o 0) (o 0)))", "(p (, (@ 0) (E (n 0))))");
        does("e 1 2 / 0 1", "(: (A) (, (o 0) (o 1)))", "(; (p (n 1)) (d (n 5)))", "(p (n 2))");
        // What is lent in the main node is given back ahead of these destructors.
        does("e 0 / 0", "(; (L 0 (n 5)) (: (g 1) (o 0)))", "(p (g 0))");
        Contextwright x = Checks.program("(d (o 0))", TELL);
        x.run(false, 99);
        Checks.due("a thing thrown out of the main node", x.died() + " " + x.destroyed(), "1000000 1");
        // A thing that came back is gone without its destructor.
        Contextwright y = Checks.program("(; (o 0) (p (n 1)))", "(: (g 0) (@ 0))");
        y.run(false, 99);
        Checks.due("behind a thing that came back", y.destroyed() + " " + y.gone(0), "1 0");
    }

    private static void overInDestructors() {
        String main = "(; (o 0) (p (n 1)))";
        String five = "(p (n 5))";
        dueOver("l  /  / 0", 1, main, five);
        dueOver("l  / -1 / 1", 2, main, five);
        dueOver("l  / -1 / 1", 3, main, five);
        dueOver("l 5 / 0 / 1", 4, main, five);
        dueOver("e 5 1 / 0 / 1", 6, main, five);
        dueOver("l  / -1 / 1", 4, "(: (g 0) (o 0))", five);
        dueOver("e 5 / 0 / 1", 5, "(: (g 0) (o 0))", five);
        dueOver("l  / -1 -1 / 1", 8, "(: (A) (, (o 0) (o 0)))", "(; (n 1) (p (n 5)))");
        dueOver("l 5 / 0 -1 / 2", 9, "(: (A) (, (o 0) (o 0)))", "(; (n 1) (p (n 5)))");
        Contextwright x = Checks.program("(; (: (g 0) (o 0)) (d (n 4)))", five);
        x.run(false, 5);
        Checks.due("over ahead of the throw", x.ending() + Checks.answer(() -> x.died()), "lNoSuchElementException");
        x.run(false, 6);
        Checks.due("over behind the throw", x.ending() + " " + x.died() + " " + x.variable(0) + " " + x.destroyed(), "l 4 1000000 1");
        x.run(false, 8);
        Checks.due("not over behind the throw", x.ending() + " " + x.died() + " " + x.destroyed(), "d 4 1");
        Contextwright y = Checks.program(main, "(; (L 0 (n 5)) (p (g 0)))");
        y.run(false, 5);
        Checks.due("a loan of a destructor when over", y.ending() + " " + y.lent() + y.givenBack() + y.variable(0), "l 110");
    }
}
