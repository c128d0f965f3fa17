/** The sentences of the Terms on ends, things, steps and thinning that name a boundary case, one by one. */
public final class EndsTest {
    private static final String TELL = "(p (@ 0))";
    private static final String TELL_LOANS = "(p (, (g 0) (g 3)))";

    public static void main(String[] args) {
        endsOnWhicheverWay();
        endsBecauseTheRunIsOver();
        givenBackWeakly();
        slotsAtTheBeginning();
        holders();
        holdersForATime();
        valuesUnderWay();
        whenThingsAreLookedAfter();
        lowestFirst();
        destructorsOnce();
        destructorsThatFail();
        goneOrHeldAgain();
        inDestructors();
        behindTheMainNode();
        steps();
        stepsOfThings();
        thinnedSums();
        thinnedChoicesAndRows();
        thinnedBlocksAndLoops();
        notThinned();
        Checks.end("EndsTest");
    }

    private static void does(String want, String main, String... subs) {
        Checks.does(want, main, subs);
    }

    /** How a program ends, what it prints, and the ranks of its things. */
    private static void things(String want, String main, String... subs) {
        Contextwright x = Checks.ran(2000, main, subs);
        Checks.due(main, x.ending() + " " + Checks.prints(x) + " / " + Checks.ranks(x), want);
        Checks.due("isConsistent of " + main, x.isConsistent(), true);
    }

    // ---- ends

    private static void endsOnWhicheverWay() {
        Checks.sentence("When a block, try, sub or the main node ends, on whichever way, also because the run is over, first the package variables that were lent in it hold again what they held before");
        String begin = "(; (: (x 0) (n 9)) (; (: (g 0) (n 8)) (; (v (f 1 (, (n 1) (n 2)) ";
        String end = ")) (p (, (g 0) (x 0))))))";
        for (String way : new String[] {"(n 1)", "(d (n 1))", "(B)", "(r -1)"}) {
            String inside = "(; (L 0 (n 4)) (; (m 0 (n 5)) " + way + "))";
            does(way.equals("(r -1)") ? "e " : "e 8 9", begin + "(b " + inside + ")" + end);
            does(way.equals("(r -1)") ? "e " : "e 8 9", begin + "(v " + inside + ")" + end);
            does("e 8 9", begin + "(c 0 -1)" + end, "(f 2 (n 1) " + inside + ")");
            Contextwright x = Checks.ran(99, "(f 0 (n 1) " + inside + ")");
            Checks.due("main node left by " + way, x.variable(0) + " " + x.lent() + x.givenBack(), "0 11");
        }
        Checks.sentence("the last one first");
        does("e 8 7", "(; (: (, (g 0) (g 1)) (, (n 8) (n 7))) (; (b (; (L 0 (n 1)) (; (L 1 (n 2)) (; (L 0 (n 3)) (L 0 (n 4)))))) (p (, (g 0) (g 1)))))");
        does("e 2 1 8", "(; (: (g 0) (n 8)) (; (b (; (L 0 (n 1)) (; (b (; (L 0 (n 2)) (p (g 0)))) (p (g 0))))) (p (g 0))))");
    }

    private static void endsBecauseTheRunIsOver() {
        Checks.sentence("also because the run is over");
        String main = "(; (L 0 (n 1)) (; (b (; (L 1 (n 2)) (v (; (L 0 (n 3)) (; (L 0 (n 4)) (f 0 (n 1) (c 0 -1))))))) (; (L 2 (n 5)) (n 6))))";
        String[] subs = {"(; (L 0 (n 7)) (; (o 1) (L 3 (n 8))))", "(; (L 1 (n 9)) (n 1))"};
        int all = Checks.ran(2000, main, subs).steps();
        int most = 0;
        for (int steps = 1; steps <= all; steps++) {
            Contextwright x = Checks.program(main, subs);
            for (int i = 0; i < 4; i++) {
                x.setVariable(i, 70 + i);
            }
            Checks.due("ending behind " + steps + " steps", x.run(false, steps), steps < all ? 'l' : 'e');
            Checks.due("given back behind " + steps + " steps", x.givenBack(), x.lent());
            Checks.due("variables behind " + steps + " steps", Checks.variables(x), "70 71 72 73");
            most = Math.max(most, x.lent());
        }
        Checks.due("lent at most", most, 8);
    }

    private static void givenBackWeakly() {
        String weak = "(; (: (x 0) (o 0)) (; (: (g 0) (x 0)) (; (k (g 0)) ";
        Checks.sentence("weakly if it was so");
        things("e 1000000 1000000 - / 0", weak + "(; (b (L 0 (n 5))) (; (p (g 0)) (; (: (x 0) (0)) (p (g 0))))))))", TELL);
        things("e 1000000 2 1000000 / 0", "(; (: (g 0) (o 0)) (; (b (L 0 (n 5))) (; (p (g 0)) (p (n 2)))))", TELL);
        Checks.sentence("or nothing if it was so and the thing is gone by then");
        things("e 1000000 5 - / 0", weak + "(; (b (; (L 0 (n 5)) (; (: (x 0) (0)) (p (g 0))))) (p (g 0))))))", TELL);
        things("e 1000000 - / 0", weak + "(; (v (; (L 0 (x 0)) (; (: (x 0) (0)) (d (n 1))))) (p (g 0))))))", TELL);
    }

    private static void slotsAtTheBeginning() {
        Checks.sentence("then the slots of a block or try are the places that they were at its beginning, and those of a sub are gone");
        for (String kind : new String[] {"b", "v"}) {
            does("e 2 3", "(; (: (, (x 0) (x 5)) (, (n 1) (n 1))) (; (KIND (; (: (, (x 0) (x 5)) (, (n 2) (n 3))) (; (m 0 (n 7)) (m 5 (n 7))))) (p (, (x 0) (x 5)))))"
                .replace("KIND", kind));
            does("e 6 - 4", "(; (m 0 (n 4)) (; (KIND (; (m 0 (n 5)) (; (KIND (m 0 (n 6))) (p (+ (x 0) (n 1)))))) (p (, (x 1) (x 0)))))".replace("KIND", kind));
        }
        things("e 1 1000000 2 / 0", "(; (c 1 -1) (p (n 2)))", TELL, "(; (: (x 5) (o 0)) (p (n 1)))");
        things("e 1 1000000 2 / 0", "(; (v (c 1 -1)) (p (n 2)))", TELL, "(; (: (x 0) (o 0)) (; (p (n 1)) (d (n 1))))");
    }

    // ---- things

    private static void holders() {
        Checks.sentence("A thing is held by a place that holds it, not weakly, and is a package variable, an element, a slot of the main node or of a sub that is carried out");
        String put = "(; (: PLACE (o 0)) (; (p (n 1)) (; (: PLACE (n 5)) (p (n 2)))))";
        for (String place : new String[] {"(g 0)", "(g 3)", "(E (n 0))", "(E (n 29))", "(x 0)", "(x 5)"}) {
            things("e 1 1000000 2 / 0", put.replace("PLACE", place), TELL);
            things("e 1 1000000 2 / 0", "(c 1 -1)", TELL, put.replace("PLACE", place));
            things("e 1000000 - 2 / 0", "(; (: PLACE (o 0)) (; (k PLACE) (; (p PLACE) (p (n 2)))))".replace("PLACE", place), TELL);
        }
        things("e 1 1000000 2 / 0", "(; (: (x 5) (o 0)) (; (c 1 -1) (; (: (x 5) (0)) (p (n 2)))))", TELL, "(c 2 -1)", "(p (n 1))");
        things("e 1 1000000 2 / 0", "(; (c 1 -1) (p (n 2)))", TELL, "(; (: (x 5) (o 0)) (c 2 -1))", "(p (n 1))");
        things("e 1 1000000 2 / 0", "(; (: (A) (o 0)) (; (p (n 1)) (; (: (A) (0)) (p (n 2)))))", TELL);
        things("e 1 1000000 2 / 0", "(; (: (x 0) (o 0)) (; (p (n 1)) (; (m 0 -1) (p (n 2)))))", TELL);
        things("e 1 1000000 2 / 0", "(; (: (x 0) (: (g 3) (o 0))) (; (: (x 0) (0)) (; (p (n 1)) (; (: (g 3) (0)) (p (n 2))))))", TELL);
    }

    private static void holdersForATime() {
        Checks.sentence("also one that it was and will be again, or an argument or a place that is gone through by a loop");
        things("e 1 2 1000000 / 0", "(; (: (x 5) (o 0)) (; (b (; (m 5 -1) (p (n 1)))) (p (n 2))))", TELL);
        things("e 1 2 1000000 / 0", "(; (: (x 5) (o 0)) (; (f 5 (n 1) (p (n 1))) (p (n 2))))", TELL);
        things("e 1 2 1000000 / 0", "(; (: (x 0) (o 0)) (; (v (; (m 0 -1) (c 1 -1))) (p (n 2))))", TELL, "(p (n 1))");
        things("e 1 1000000 2 / 0", "(; (c 1 (, (n 0) (, (n 0) (, (n 0) (, (n 0) (o 0)))))) (p (n 2)))", TELL, "(p (n 1))");
        things("e 1 1000000 3 2 / 0", "(; (c 1 (o 0)) (p (n 2)))", TELL, "(; (p (n 1)) (; (: (@ 0) (0)) (p (n 3))))");
        things("e 1 1 1 1000000 1000001 2 / 0 1", "(; (f 0 (, (o 0) (, (n 0) (o 0))) (p (n 1))) (p (n 2)))", TELL);
        things("e 1 1000000 3 2 / 0", "(; (f 0 (o 0) (; (p (n 1)) (; (: (x 0) (0)) (p (n 3))))) (p (n 2)))", TELL);
        // A place that the slot was made in between is let go of as soon as the loop goes on, or ends.
        things("e 1 1000000 2 1000001 3 / 0 1", "(; (f 0 (, (n 1) (n 2)) (; (p (x 0)) (m 0 (o 0)))) (p (n 3)))", TELL);
        things("e 1 2 1000000 3 / 0", "(; (f 0 (, (n 1) (n 2)) (; (p (x 0)) (? (q (x 0) (n 2)) (b (m 0 (: (x 0) (o 0)))) (0)))) (p (n 3)))", TELL);
        Checks.sentence("by what a lent package variable held before");
        things("e 1 2 1000000 3 / 0", "(; (: (g 3) (o 0)) (; (b (; (L 3 -1) (p (n 1)))) (; (p (n 2)) (; (: (g 3) (0)) (p (n 3))))))", TELL);
        things("e 1 1000000 2 / 0", "(; (b (; (L 0 (o 0)) (; (b (L 0 (n 1))) (p (n 1))))) (p (n 2)))", TELL);
        Checks.sentence("To hold a thing anew in a place is never weak.");
        things("e 1 1000000 2 / 0", "(; (: (x 0) (o 0)) (; (: (x 0) (k (x 0))) (; (p (n 1)) (; (: (x 0) (0)) (p (n 2))))))", TELL);
        things("e 1 2 1000000 / 0", "(; (: (x 0) (o 0)) (; (: (g 0) (x 0)) (; (k (g 0)) (; (: (g 0) (g 0)) "
            + "(; (: (x 0) (0)) (; (p (n 1)) (p (n 2))))))))", TELL);
    }

    private static void valuesUnderWay() {
        Checks.sentence("one that a node, which is not done yet, has got from a part of it");
        for (String kind : new String[] {"+", "-", "*", "<", "q"}) {
            things("e 1 1000000 2 / 0", "(; (KIND (o 0) (p (n 1))) (p (n 2)))".replace("KIND", kind), TELL);
        }
        things("e 1 1000000 2 / 0", "(; (? (o 0) (p (n 1)) (0)) (p (n 2)))", TELL);
        things("e 7 2 1000000 / 0", "(; (: (E (- (p (n 7)) (n 1))) (o 0)) (p (n 2)))", TELL);
        things("e 1000000 1000000 2 / 0", "(; (p (o 0)) (p (n 2)))", TELL);
        things("e 1000000 1 2 / 0", "(; (; (o 0) (p (n 1))) (p (n 2)))", TELL);
        things("e 1000000 1 2 / 0", "(; (, (o 0) (p (n 1))) (p (n 2)))", TELL);
        things("e 1 1000000 2 / 0", "(; (c 1 (, (o 0) (; (p (n 1)) (0)))) (p (n 2)))", TELL);
        things("e 1 1000000 2 / 0", "(; (: (, (x 0) (E (p (n 1)))) (, (n 3) (, (n 4) (o 0)))) (p (n 2)))", TELL);
        Checks.sentence("or in a place that it has got so and that holds it, not weakly");
        things("e 1 1000000 2 / 0", "(; (c 1 (, (: (x 0) (o 0)) (; (m 0 -1) (; (p (n 1)) (0))))) (p (n 2)))", TELL);
        things("e 1000000 1 2 / 0", "(; (c 1 (, (; (: (x 0) (o 0)) (; (k (x 0)) (x 0))) (; (p (n 1)) (0)))) (p (n 2)))", TELL);
        Checks.sentence("or what a node that is done just now gives");
        things("e 1 1000000 / 0", "(; (: (x 0) (c 1 -1)) (p (n 1)))", TELL, "(b (r (o 0)))");
        things("e 1 1000000 / 0", "(; (: (x 0) (b (v (? (n 1) (; (0) (, (0) (o 0))) (0))))) (p (n 1)))", TELL);
        Checks.sentence("(the value of a is not under way any more then)");
        things("e 1000000 1 / 0", "(l (o 0) (; (p (n 1)) (B)))", "(: (g 0) (p (@ 0)))");
    }

    private static void whenThingsAreLookedAfter() {
        Checks.sentence("Behind each node that is done, not those through which a value is thrown or which a loop or a sub leaves, things are looked after");
        String lend = "(b (; (L 0 (n 5)) (+ (o 0) WAY)))";
        things("e 0 1 7 / 0", "(; (v WHAT) (p (n 7)))".replace("WHAT", lend.replace("WAY", "(d (n 1))")), TELL_LOANS);
        things("e 0 0 7 / 0", "(; (f 1 (n 1) WHAT) (p (n 7)))".replace("WHAT", lend.replace("WAY", "(B)")), TELL_LOANS);
        things("e 0 0 7 / 0", "(; (c 1 -1) (p (n 7)))", TELL_LOANS, lend.replace("WAY", "(r -1)"));
        things("e 5 0 7 / 0", "(; WHAT (p (n 7)))".replace("WHAT", lend.replace("WAY", "(n 1)")), TELL_LOANS);
        // The place that is found is done ahead of what it gets.
        things("e 0 6 / 0", "(; (: (x 0) (o 0)) (; (: (, (x 0) (g 0)) (, (n 5) (n 6))) (p (g 0))))", "(p (g 0))");
        things("e 5 6 / 0", "(; (: (g 0) (o 0)) (; (: (, (g 0) (g 1)) (, (n 5) (n 6))) (p (g 1))))", "(p (g 0))");
        things("e 1000000 5 / 0", "(; (: (A) (o 0)) (: (, (A) (E (; (p (n 5)) (n 0)))) (n 0)))", TELL);
        things("e 1000000 5 / 0", "(; (: (A) (o 0)) (; (: (A) (0)) (p (n 5))))", TELL);
    }

    private static void lowestFirst() {
        Checks.sentence("as long as there is one that is not held, and not gone, the one with the lowest number is taken");
        String three = "(; (: (A) (, (o 0) (, (o 0) (o 0)))) ";
        things("e 1000000 1000001 1000002 1 / 0 1 2", three + "(; (: (A) (0)) (p (n 1))))", TELL);
        things("e 1000001 1000000 1000002 1 / 1 0 2", three + "(; (: (E (n 1)) (0)) (; (: (A) (0)) (p (n 1)))))", TELL);
        things("e 1000001 1000000 1000002 / 1 0 2",
            "(; (: (g 0) (o 0)) (; (: (A) (, (o 1) (o 0))) (: (A) (0))))", TELL, "(; (p (@ 0)) (: (g 0) (0)))");
        // The thing 1 was held again by its destructor, and is let go of together with the thing 0.
        things("e  / 0 1", "(; (: (A) (, (o -1) (o 0))) (; (: (E (n 1)) (0)) (; (: (E (n 1)) (g 0)) (; (: (g 0) (0)) (: (A) (0))))))", "(: (g 0) (@ 0))");
        Contextwright x = Checks.ran(2000, "(l (n 1) (o -1))");
        Checks.due("very many things", x.ending() + " " + x.made() + " " + x.destroyed() + " " + x.gone(0) + " " + x.gone(998), "l 999 0 0 998");
        x = Checks.ran(2000, "(; (: (A) (, (o -1) (, (o -1) (o -1)))) (; (: (A) (, (A) (, (A) (, (A) (, (o -1) (, (o -1) (o -1))))))) (: (A) (0))))");
        Checks.due("things in many places", Checks.ranks(x), "0 1 2 3 4 5");
    }

    private static void destructorsOnce() {
        Checks.sentence("if its destructor did not run yet, it runs: the sub is called, asked for none, with an argument that is a fresh place with the thing");
        things("e 0 1 1000000 - 7 / 0", "(; (o 0) (p (n 7)))", "(; (p (w)) (p (, (N) (, (@ 0) (@ 1)))))");
        things("e 1000000 5 7 / 0", "(; (o 0) (p (n 7)))", "(; (p (@ 0)) (; (: (@ 0) (n 5)) (p (@ 0))))");
        things("e - 4 / 0", "(; (: (x 0) (n 4)) (; (o 0) (p (x 0))))", "(p (x 0))");
        Contextwright x = Checks.ran(99, "(; (o 0) (; (: (g 0) (0)) (p (n 1))))", "(; (p (n 8)) (: (g 0) (@ 0)))");
        Checks.due("it runs once", Checks.prints(x) + " " + x.destroyed() + " " + x.gone(0), "8 1 1 0");
        x = Checks.ran(99, "(; (o 0) (p (n 1)))", "(; (p (n 8)) (: (g 0) (@ 0)))");
        Checks.due("it runs once, also behind the main node", Checks.prints(x) + " " + x.destroyed() + " " + x.gone(0), "8 1 1 0");
        x = Checks.ran(99, "(; (o -1) (o 2))");
        Checks.due("none, and a sub without a body", x.destroyed() + " " + Checks.ranks(x), "1 0 1");
        x = Checks.ran(7, "(; (: (x 0) (o 3)) (; (k (x 0)) (n 1)))");
        Checks.due("gone at once without a body", x.ending() + " " + x.destroyed() + x.gone(0), "l 10");
        x = Checks.ran(7, "(; (: (x 0) (o -1)) (; (k (x 0)) (n 1)))");
        Checks.due("gone at once without a destructor", x.ending() + " " + x.destroyed() + x.gone(0), "l 00");
        things("e 0 / 0 1", "(; (: (A) (, (o 3) (o 0))) (; (: (A) (0)) (L 0 -1)))", "(p (g 0))");
        things("e 0 / 0", "(; (o 0) (n 1))", "(c 1 -1)", "(p (w))");
    }

    private static void destructorsThatFail() {
        Checks.sentence("a value that is thrown out of it is lost, also 901 if 6 subs are being carried out, by which its body is not carried out, but it has run");
        things("e 2 0 / 0", "(; (o 0) (p (, (n 2) (g 3))))", "(d (n 5))");
        things("e 2 0 / 0", "(; (v (o 0)) (p (, (n 2) (g 3))))", "(B)");
        things("e 2 0 / 0", "(; (l (< (g 0) (n 1)) (; (: (g 0) (n 1)) (o 0))) (p (, (n 2) (g 3))))", "(B)");
        things("e 2 0 / 0", "(; (v (o 0)) (p (, (n 2) (g 0))))", "(; (L 0 (n 4)) (E (n 30)))");
        String down = "(; (: (g 0) (+ (g 0) (n 1))) (? (< (g 0) (n DEPTH)) (c 0 -1) (; (o 1) (p (n 6)))))";
        for (int depth = 4; depth <= 6; depth++) {
            Contextwright x = Checks.ran(500, "(c 0 -1)", down.replace("DEPTH", "" + depth), "(; (p (n 7)) (; (c 2 -1) (p (n 8))))", "(p (n 9))");
            String told = depth == 4 ? "7 9 8 6" : depth == 5 ? "7 6" : "6";
            Checks.due("a thing in sub " + depth, x.ending() + " " + Checks.prints(x) + " " + x.destroyed() + x.gone(0), "e " + told + " 10");
        }
    }

    private static void goneOrHeldAgain() {
        Checks.sentence("if the thing is not held then, or its destructor had run already, it is gone, and places that hold it weakly hold nothing");
        String keep = "(: (g 0) (@ 0))";
        things("e 1000000 - / 0", "(; (o 0) (; (p (g 0)) (; (: (g 0) (0)) (p (g 0)))))", keep);
        things("e 1000000 1000000 / 0", "(; (: (x 0) (o 0)) (; (: (x 1) (x 0)) (; (k (x 1)) (; (: (x 0) (0)) (p (, (x 1) (g 0)))))))", keep);
        things("e - - - / 0", "(; (: (x 0) (o -1)) (; (: (, (g 0) (E (n 1))) (, (x 0) (x 0))) "
            + "(; (k (x 0)) (; (k (g 0)) (; (k (E (n 1))) (p (, (x 0) (, (g 0) (E (n 1))))))))))");
        things("e 1000000 1000000 / 0", "(; (: (x 0) (o 0)) (; (k (x 0)) (p (g 0))))", "(; (p (@ 0)) (: (g 0) (@ 0)))");
    }

    private static void inDestructors() {
        Checks.sentence("Things are not looked after while a destructor runs.");
        things("e 1 2 3 / 0 1", "(; (o 0) (p (n 3)))", "(; (o 1) (p (n 1)))", "(p (n 2))");
        things("e 1 2 3 / 0 1", "(; (o 0) (p (n 3)))", "(; (: (x 0) (o 1)) (; (: (x 0) (0)) (p (n 1))))", "(p (n 2))");
        things("e 1 5 2 / 1 0", "(; (: (g 0) (o 1)) (; (o 0) (p (n 2))))", "(; (: (g 0) (0)) (p (n 1)))", "(p (n 5))");
        Checks.sentence("while it runs, the thing counts as held");
        things("e 1000000 3 / 0", "(; (: (x 0) (o 0)) (; (: (g 0) (x 0)) (; (k (g 0)) (; (: (x 0) (0)) (p (n 3))))))", "(; (: (@ 0) (0)) (p (g 0)))");
    }

    private static void behindTheMainNode() {
        Checks.sentence("Behind the main node, if the run is not over, each thing that is not gone is taken likewise, by rising numbers, and is gone then, held or not.");
        things("e 9 1000000 1000001 1000002 / 0 1 2", "(; (: (, (g 3) (, (x 5) (E (n 29)))) (, (o 0) (, (o 0) (o 0)))) (p (n 9)))", TELL);
        things("e 1000000 1000001 1000002 / 0 1 2", "(: (, (E (n 0)) (, (x 0) (g 0))) (, (o 0) (, (o 0) (o 0))))", TELL);
        things("e 5 1000001 / 0 1", "(: (g 0) (o 0))", "(; (o 1) (p (n 5)))", TELL);
        things("e 5 6 / 0 1", "(: (, (g 0) (g 1)) (, (o 0) (o 1)))", "(; (: (g 1) (0)) (p (n 5)))", "(p (n 6))");
        things("e 6 1000000 - / 0 1", "(; (: (, (g 0) (g 1)) (, (o 0) (o 1))) (; (: (g 2) (g 0)) (k (g 2))))",
            "(p (n 6))", "(p (, (g 0) (g 2)))");
        // What is lent in the main node is given back when all its nodes are done: no thing comes out of its turn by that.
        things("e 1000000 1000001 / 0 1", "(; (: (g 0) (o 0)) (L 1 (o 0)))", TELL);
        things("e 1000000 1000001 / 0 1", "(; (: (x 0) (o 0)) (L 1 (o 0)))", TELL);
        things("e 1000001 1000000 / 1 0", "(; (: (g 0) (o 0)) (b (L 1 (o 0))))", TELL);
        things("d 1000000 / 0", "(; (: (x 0) (o 0)) (d (n 4)))", TELL);
        things("e 1000000 / 0", "(; (: (x 0) (o 0)) (r -1))", TELL);
        things("e 1000000 8 / 0", "(; (: (g 1) (n 8)) (; (L 1 (n 3)) (: (g 0) (o 0))))", "(; (p (@ 0)) (p (g 1)))");
        Contextwright x = Checks.ran(2, "(; (: (g 0) (o 0)) (n 1))", TELL);
        Checks.due("not if the run is over", x.ending() + " " + x.made() + x.destroyed(), "l 00");
        x = Checks.ran(4, "(; (: (g 0) (o 0)) (n 1))", TELL);
        Checks.due("not if the run is over with a thing", x.ending() + " " + x.made() + x.destroyed() + x.gone(0), "l 10-1");
    }

    // ---- steps

    private static void steps() {
        Checks.sentence("Each node that is asked is a step. When a node is asked and as many steps as are allowed were made, the run is over; nothing is printed and no destructor runs any more.");
        String[] programs = {"(n 1)", "(p (n 1))", "(: (, (x 0) (, (A) (E (n 1)))) (, (n 1) (n 2)))", "(f 0 (, (n 1) (n 2)) (p (x 0)))",
            "(l (< (g 0) (n 2)) (: (g 0) (+ (g 0) (n 1))))", "(c 0 (n 1))", "(v (d (n 1)))", "(f 0 (n 1) (B))", "(? (n 0) (n 1) (b (n 2)))"};
        int[] due = {1, 2, 10, 8, 20, 6, 3, 3, 4};
        for (int i = 0; i < programs.length; i++) {
            Contextwright x = Checks.program(programs[i], "(; (m 0 -1) (r (@ 0)))");
            Checks.due("steps of " + programs[i], x.run(false, due[i]) + " " + x.steps(), "e " + due[i]);
            if (due[i] > 1) {
                Checks.due("a step too few for " + programs[i], x.run(false, due[i] - 1) + " " + x.steps(), "l " + (due[i] - 1));
            }
        }
        Contextwright x = Checks.program("(, (p (n 1)) (p (n 2)))");
        String[] prints = {"", "", "1", "1", "1 2", "1 2"};
        for (int steps = 1; steps <= 6; steps++) {
            Checks.due("behind " + steps + " steps", x.run(false, steps) + " " + Checks.prints(x), (steps < 5 ? "l " : "e ") + prints[steps - 1]);
        }
        x = Checks.ran(4, "(v (; (n 1) (; (d (n 2)) (n 3))))");
        Checks.due("no try ends that the run is over", x.ending() + " " + x.variable(3), "l 0");
    }

    private static void stepsOfThings() {
        String[] due = {"l  / ", "l  / -1", "l  / -1", "l 7 / 0", "l 7 / 0", "e 7 1 / 0"};
        Contextwright x = Checks.program("(; (o 0) (p (n 1)))", "(p (n 7))");
        for (int steps = 1; steps <= 6; steps++) {
            String got = x.run(false, steps) + " " + Checks.prints(x) + " / " + Checks.ranks(x);
            Checks.due("a thing behind " + steps + " steps", got, due[steps - 1]);
        }
        x = Checks.program("(: (A) (, (o 0) (o 0)))", "(p (n 7))");
        String[] ends = {"l  / -1 -1 1", "l  / -1 -1 1", "l 7 / 0 -1 2", "l 7 / 0 -1 2", "e 7 7 / 0 1 2"};
        for (int steps = 5; steps <= 9; steps++) {
            String got = x.run(false, steps) + " " + Checks.prints(x) + " / " + Checks.ranks(x) + " " + x.destroyed();
            Checks.due("things left behind " + steps + " steps", got, ends[steps - 5]);
        }
    }

    // ---- thinning

    /** The kind and the size that the last node of a text has in the thinned program. */
    private static void thins(String want, String text) {
        Contextwright x = new Contextwright();
        int node = Checks.add(x, text);
        Checks.due("thinned " + text, x.thinnedKind(node) + " " + x.thinnedSize(node), want);
    }

    private static void thinsTo(int want, String text) {
        thins("n 1", text);
        Contextwright x = Checks.program("(p " + text + ")");
        Checks.due("thinned " + text, x.run(true, 2) + " " + Checks.prints(x), "e " + want);
    }

    private static void thinnedSums() {
        Checks.sentence("'+', '-', '*', '<', 'q' of two numbers 'n' and '!' of one become the number that it gives");
        thinsTo(5, "(+ (n 2) (n 3))");
        thinsTo(-1, "(- (n 2) (n 3))");
        thinsTo(6, "(* (n 2) (n 3))");
        thinsTo(1, "(< (n 2) (n 3))");
        thinsTo(0, "(< (n 3) (n 3))");
        thinsTo(0, "(< (n 3) (n 2))");
        thinsTo(1, "(q (n 3) (n 3))");
        thinsTo(0, "(q (n 2) (n 3))");
        thinsTo(1, "(! (n 0))");
        thinsTo(0, "(! (n 1))");
        thinsTo(0, "(! (n -1))");
        thinsTo(998001 * 998001, "(* (* (n 999) (n 999)) (* (n 999) (n 999)))");
        thinsTo(998001 * 998001 * 2 + 7, "(+ (* (n 2) (* (* (n 999) (n 999)) (* (n 999) (n 999)))) (n 7))");
        for (String kind : new String[] {"+", "-", "*", "<", "q"}) {
            thins(kind + " 3", "(KIND (n 1) (0))".replace("KIND", kind));
            thins(kind + " 3", "(KIND (0) (n 1))".replace("KIND", kind));
            thins(kind + " 3", "(KIND (x 0) (+ (n 1) (n 1)))".replace("KIND", kind));
        }
        thins("! 2", "(! (0))");
        thins("! 2", "(! (o -1))");
    }

    private static void thinnedChoicesAndRows() {
        Checks.sentence("'?' with a number as its part a becomes the thinned part that is asked");
        thins("A 1", "(? (n -1) (A) (B))");
        thins("B 1", "(? (n 0) (A) (B))");
        thinsTo(3, "(? (< (n 1) (n 2)) (+ (n 1) (n 2)) (B))");
        thins("d 2", "(? (! (n 5)) (A) (d (+ (n 1) (n 2))))");
        thins("? 4", "(? (0) (A) (B))");
        thins("? 4", "(? (w) (A) (+ (n 1) (n 1)))");
        Checks.sentence("';' whose part a is of the kind n, 0, w, N or x becomes its part b, and so does ';' whose part a is of the kind b around such a one");
        for (String a : new String[] {"(n 4)", "(0)", "(w)", "(N)", "(x 5)", "(+ (n 1) (n 1))", "(l (n 0) (A))"}) {
            thins("d 2", "(; WHAT (d (A)))".replace("WHAT", a));
            thins("d 2", "(; (b WHAT) (d (A)))".replace("WHAT", a));
        }
        for (String a : new String[] {"(g 0)", "(@ 0)", "(A)", "(B)", "(o -1)", "(r -1)", "(m 0 -1)", "(L 0 -1)", "(c 0 -1)"}) {
            thins("; 4", "(; WHAT (d (A)))".replace("WHAT", a));
            thins("; 5", "(; (b WHAT) (d (A)))".replace("WHAT", a));
        }
        thins("; 6", "(; (b (b (x 0))) (d (A)))");
        thins("d 2", "(; (b (b (n 1))) (d (A)))");
        thins("; 5", "(; (v (x 0)) (d (A)))");
        thins("; 5", "(; (v (n 1)) (d (A)))");
        thins("; 3", "(; (A) (; (n 1) (B)))");
        thins(", 3", "(, (n 1) (A))");
    }

    private static void thinnedBlocksAndLoops() {
        Checks.sentence("'b' around a number becomes the number");
        thinsTo(4, "(b (n 4))");
        thinsTo(5, "(b (b (+ (n 4) (n 1))))");
        thins("b 2", "(b (0))");
        thins("b 2", "(b (x 0))");
        thins("v 2", "(v (n 4))");
        Checks.sentence("'l' with the number 0 as its part a becomes '0'");
        thins("0 1", "(l (n 0) (A))");
        thins("0 1", "(l (b (< (n 2) (n 1))) (d (A)))");
        thins("l 3", "(l (n 1) (A))");
        thins("l 3", "(l (n -1) (A))");
        thins("l 3", "(l (0) (A))");
    }

    private static void notThinned() {
        Checks.sentence("all others stay, with thinned parts");
        for (String leaf : new String[] {"0", "w", "N", "A", "B"}) {
            thins(leaf + " 1", "(" + leaf + ")");
        }
        thins("x 1", "(x 5)");
        thins("g 1", "(g 3)");
        thins("@ 1", "(@ 3)");
        thins("o 1", "(o -1)");
        for (String kind : new String[] {"E", "d", "v", "p", "r"}) {
            thins(kind + " 2", "(" + kind + " (+ (n 1) (n 1)))");
        }
        thins("k 3", "(k (E (+ (n 1) (n 1))))");
        for (String kind : new String[] {"m", "L", "c"}) {
            thins(kind + " 1", "(" + kind + " 1 -1)");
            thins(kind + " 2", "(" + kind + " 1 (+ (n 1) (n 1)))");
        }
        thins("r 1", "(r -1)");
        thins("f 3", "(f 1 (+ (n 1) (n 1)) (+ (n 1) (n 1)))");
        thins(", 3", "(, (+ (n 1) (n 1)) (+ (n 1) (n 1)))");
        thins(": 4", "(: (E (+ (n 1) (n 1))) (+ (n 1) (n 1)))");
    }
}
