/** Promises 1 to 9 and 25: what a program is made of, and what it is thinned to. */
public final class ProgramsTest {
    private static final String PARTLESS = "0wNAB";
    private static final String ONE_PART = "E!bdvkp";
    private static final String TWO_PARTS = "+-*<q,;:l";
    private static final String IAE = "IllegalArgumentException";
    private static final String IOOBE = "IndexOutOfBoundsException";
    private static final String ISE = "IllegalStateException";

    public static void main(String[] args) {
        aNewObject();
        everyKind();
        wrongNumbers();
        wrongParts();
        wrongKindsOfParts();
        firstOfSeveral();
        fortyEightNodes();
        subs();
        mainNode();
        variables();
        thinnedKinds();
        sizes();
        thinShare();
        Checks.end("ProgramsTest");
    }

    private static void aNewObject() {
        Contextwright x = new Contextwright();
        Checks.due("nodes at first", x.nodes(), 0);
        Checks.due("allSteps at first", x.allSteps(), 0L);
        Checks.due("isConsistent at first", x.isConsistent(), true);
        Checks.dueCall("thinShare at first", () -> x.thinShare(), "ArithmeticException");
        Checks.dueCall("size at first", () -> x.size(0), IOOBE);
        Checks.dueCall("run at first", () -> x.run(false, 5), ISE);
        Checks.due("a second object's nodes", new Contextwright().nodes(), 0);
    }

    private static void add(Contextwright x, char kind, int a, int b, int c, Object want) {
        Checks.dueCall("addNode " + kind + " " + a + " " + b + " " + c, () -> x.addNode(kind, a, b, c), want);
    }

    private static Contextwright withSlotNode() {
        Contextwright x = new Contextwright();
        add(x, 'x', 0, 0, 0, 0);
        return x;
    }

    private static void everyKind() {
        Contextwright x = withSlotNode();
        int next = 1;
        for (int i = 0; i < PARTLESS.length(); i++) {
            add(x, PARTLESS.charAt(i), 0, 0, 0, next++);
        }
        for (int i = 0; i < ONE_PART.length(); i++) {
            add(x, ONE_PART.charAt(i), 0, 0, 0, next++);
        }
        for (int i = 0; i < TWO_PARTS.length(); i++) {
            add(x, TWO_PARTS.charAt(i), 0, 0, 0, next++);
        }
        add(x, '?', 0, 0, 0, next++);
        add(x, 'n', -999, 0, 0, next++);
        add(x, 'n', 999, 0, 0, next++);
        add(x, 'x', 5, 0, 0, next++);
        add(x, 'g', 3, 0, 0, next++);
        add(x, '@', 3, 0, 0, next++);
        add(x, 'm', 5, -1, 0, next++);
        add(x, 'L', 3, -1, 0, next++);
        add(x, 'c', 3, -1, 0, next++);
        add(x, 'c', 0, 0, 0, next++);
        add(x, 'r', -1, 0, 0, next++);
        add(x, 'r', 0, 0, 0, next++);
        add(x, 'o', -1, 0, 0, next++);
        add(x, 'o', 3, 0, 0, next++);
        add(x, 'f', 5, 0, 0, next++);
        Checks.due("nodes", x.nodes(), next);
    }

    private static void wrongNumbers() {
        Contextwright x = withSlotNode();
        String noKinds = " aCDMnOPX1~\n\u00e9\uffff";
        for (int i = 0; i < noKinds.length(); i++) {
            if (noKinds.charAt(i) != 'n') {
                add(x, noKinds.charAt(i), 0, 0, 0, IAE);
            }
        }
        for (int i = 0; i < PARTLESS.length(); i++) {
            add(x, PARTLESS.charAt(i), 1, 0, 0, IAE);
            add(x, PARTLESS.charAt(i), 0, -1, 0, IAE);
            add(x, PARTLESS.charAt(i), 0, 0, 1, IAE);
        }
        for (int i = 0; i < ONE_PART.length(); i++) {
            add(x, ONE_PART.charAt(i), 0, 1, 0, IAE);
            add(x, ONE_PART.charAt(i), 0, 0, -1, IAE);
        }
        for (int i = 0; i < TWO_PARTS.length(); i++) {
            add(x, TWO_PARTS.charAt(i), 0, 0, 1, IAE);
        }
        for (int far : new int[] {-1000, 1000, Integer.MIN_VALUE, Integer.MAX_VALUE}) {
            add(x, 'n', far, 0, 0, IAE);
            add(x, 'x', far, 0, 0, IAE);
            add(x, 'g', far, 0, 0, IAE);
            add(x, '@', far, 0, 0, IAE);
            add(x, 'o', far, 0, 0, IAE);
            add(x, 'm', far, 0, 0, IAE);
            add(x, 'L', far, 0, 0, IAE);
            add(x, 'c', far, 0, 0, IAE);
            add(x, 'f', far, 0, 0, IAE);
        }
        for (char kind : "xmf".toCharArray()) {
            add(x, kind, 6, 0, 0, IAE);
            add(x, kind, -1, 0, 0, IAE);
        }
        for (char kind : "g@Lc".toCharArray()) {
            add(x, kind, 4, 0, 0, IAE);
            add(x, kind, -1, 0, 0, IAE);
        }
        add(x, 'o', 4, 0, 0, IAE);
        add(x, 'o', -2, 0, 0, IAE);
        add(x, 'n', 1, 1, 0, IAE);
        add(x, 'n', 1, 0, 1, IAE);
        add(x, 'm', 0, -1, 1, IAE);
        add(x, 'L', 0, -1, 1, IAE);
        add(x, 'c', 0, -1, 1, IAE);
        add(x, 'r', -1, 1, 0, IAE);
        add(x, 'r', -1, 0, 1, IAE);
        Checks.due("nodes behind wrong numbers", x.nodes(), 1);
    }

    private static void wrongParts() {
        Contextwright x = withSlotNode();
        for (int no : new int[] {1, -1, 48, Integer.MAX_VALUE, Integer.MIN_VALUE}) {
            for (int i = 0; i < ONE_PART.length(); i++) {
                add(x, ONE_PART.charAt(i), no, 0, 0, IOOBE);
            }
            for (int i = 0; i < TWO_PARTS.length(); i++) {
                add(x, TWO_PARTS.charAt(i), no, 0, 0, IOOBE);
                add(x, TWO_PARTS.charAt(i), 0, no, 0, IOOBE);
            }
            add(x, '?', no, 0, 0, IOOBE);
            add(x, '?', 0, no, 0, IOOBE);
            add(x, '?', 0, 0, no, IOOBE);
            add(x, 'f', 0, no, 0, IOOBE);
            add(x, 'f', 0, 0, no, IOOBE);
            if (no != -1) {
                add(x, 'm', 0, no, 0, IOOBE);
                add(x, 'L', 0, no, 0, IOOBE);
                add(x, 'c', 0, no, 0, IOOBE);
                add(x, 'r', no, 0, 0, IOOBE);
            }
        }
        Checks.due("nodes behind wrong parts", x.nodes(), 1);
    }

    private static void wrongKindsOfParts() {
        Contextwright x = new Contextwright();
        int number = Checks.add(x, "(n 1)");
        int slot = Checks.add(x, "(x 1)");
        int variable = Checks.add(x, "(g 1)");
        int argument = Checks.add(x, "(@ 1)");
        int array = Checks.add(x, "(A)");
        int element = x.addNode('E', number, 0, 0);
        int pair = x.addNode(',', slot, array, 0);
        int deep = x.addNode(',', pair, element, 0);
        int bad = x.addNode(',', deep, number, 0);
        int block = x.addNode('b', slot, 0, 0);
        int next = x.nodes();
        for (int target : new int[] {slot, variable, argument, element, array, pair, deep}) {
            add(x, ':', target, bad, 0, next++);
        }
        for (int target : new int[] {number, bad, block, next - 1}) {
            add(x, ':', target, slot, 0, ISE);
        }
        for (int place : new int[] {slot, variable, argument, element}) {
            add(x, 'k', place, 0, 0, next++);
        }
        for (int other : new int[] {number, array, pair, deep, bad, block}) {
            add(x, 'k', other, 0, 0, ISE);
        }
        Checks.due("nodes behind wrong kinds of parts", x.nodes(), next);
    }

    private static void firstOfSeveral() {
        Contextwright x = new Contextwright();
        int number = Checks.add(x, "(n 1)");
        add(x, ':', number, 9, 1, IAE);
        add(x, ':', number, 9, 0, IOOBE);
        add(x, 'k', 9, 0, 0, IOOBE);
        add(x, 'f', 6, 9, 9, IAE);
        add(x, 'z', 9, 9, 9, IAE);
        while (x.nodes() < 48) {
            x.addNode('A', 0, 0, 0);
        }
        add(x, 'A', 1, 0, 0, IAE);
        add(x, 'p', 48, 0, 0, IOOBE);
        add(x, 'p', 47, 0, 0, ISE);
        add(x, ':', number, number, 0, ISE);
    }

    private static void fortyEightNodes() {
        Contextwright x = new Contextwright();
        for (int i = 0; i < 48; i++) {
            add(x, 'n', i, 0, 0, i);
        }
        add(x, 'n', 1, 0, 0, ISE);
        Checks.due("nodes when full", x.nodes(), 48);
        Checks.dueCall("setMain 47", () -> x.setMain(47), -1);
        Checks.dueCall("setMain 48", () -> x.setMain(48), IOOBE);
    }

    private static void subs() {
        Contextwright x = withSlotNode();
        add(x, 'A', 0, 0, 0, 1);
        for (int sub = 0; sub < 4; sub++) {
            int s = sub;
            Checks.dueCall("setSub first", () -> x.setSub(s, s % 2), -1);
            Checks.dueCall("setSub again", () -> x.setSub(s, -1), s % 2);
            Checks.dueCall("setSub none", () -> x.setSub(s, 1), -1);
        }
        for (int no : new int[] {-1, 4, Integer.MAX_VALUE, Integer.MIN_VALUE}) {
            Checks.dueCall("setSub no sub", () -> x.setSub(no, 0), IOOBE);
        }
        for (int no : new int[] {-2, 2, 48, Integer.MAX_VALUE, Integer.MIN_VALUE}) {
            Checks.dueCall("setSub no node", () -> x.setSub(0, no), IOOBE);
        }
        Checks.dueCall("setSub behind throws", () -> x.setSub(0, 0), 1);
    }

    private static void mainNode() {
        Contextwright x = withSlotNode();
        Checks.dueCall("setMain", () -> x.setMain(0), -1);
        for (int no : new int[] {-2, 1, 48, Integer.MAX_VALUE, Integer.MIN_VALUE}) {
            Checks.dueCall("setMain no node", () -> x.setMain(no), IOOBE);
        }
        Checks.dueCall("setMain none", () -> x.setMain(-1), 0);
        Checks.dueCall("setMain again", () -> x.setMain(0), -1);
    }

    private static void variables() {
        Contextwright x = withSlotNode();
        for (int variable = 0; variable < 4; variable++) {
            int v = variable;
            Checks.dueCall("setVariable first", () -> x.setVariable(v, Integer.MIN_VALUE + v), 0);
            Checks.dueCall("setVariable again", () -> x.setVariable(v, 10 + v), Integer.MIN_VALUE + v);
        }
        for (int no : new int[] {-1, 4, Integer.MAX_VALUE, Integer.MIN_VALUE}) {
            Checks.dueCall("setVariable no variable", () -> x.setVariable(no, 0), IOOBE);
        }
        x.setMain(0);
        x.run(false, 1);
        for (int variable = 0; variable < 4; variable++) {
            Checks.due("variable " + variable, x.variable(variable), 10 + variable);
        }
        Checks.due("isTheNumberNotNothing", Checks.prints(ran("(p (g 2))")), "0");
    }

    private static Contextwright ran(String main) {
        Contextwright x = Checks.program(main);
        x.run(false, 2000);
        return x;
    }

    /** What a text is thinned to: its kind, its size and, for a number, the number. */
    private static void thins(String text, String want) {
        Contextwright x = new Contextwright();
        int node = Checks.add(x, text);
        String got = x.thinnedKind(node) + " " + x.thinnedSize(node);
        if (x.thinnedKind(node) == 'n') {
            x.setMain(x.addNode('p', node, 0, 0));
            x.run(true, 2);
            got = got + " " + Checks.prints(x);
        }
        Checks.due("thinned " + text, got, want);
    }

    private static void thinnedKinds() {
        thins("(+ (n 999) (n -4))", "n 1 995");
        thins("(- (n 3) (n 5))", "n 1 -2");
        thins("(* (* (n 999) (n 999)) (* (n 999) (n 999)))", "n 1 " + 998001 * 998001);
        thins("(< (n 3) (n 5))", "n 1 1");
        thins("(< (n 5) (n 5))", "n 1 0");
        thins("(q (n 5) (n 5))", "n 1 1");
        thins("(q (n 5) (n 6))", "n 1 0");
        thins("(! (n 0))", "n 1 1");
        thins("(! (n -7))", "n 1 0");
        thins("(! (0))", "! 2");
        thins("(+ (0) (n 1))", "+ 3");
        thins("(+ (n 1) (w))", "+ 3");
        thins("(? (n -1) (A) (B))", "A 1");
        thins("(? (n 0) (A) (B))", "B 1");
        thins("(? (- (n 4) (n 4)) (A) (+ (n 1) (n 2)))", "n 1 3");
        thins("(? (0) (A) (B))", "? 4");
        thins("(; (n 4) (A))", "A 1");
        thins("(; (0) (A))", "A 1");
        thins("(; (w) (A))", "A 1");
        thins("(; (N) (A))", "A 1");
        thins("(; (x 3) (A))", "A 1");
        thins("(; (g 3) (A))", "; 3");
        thins("(; (@ 3) (A))", "; 3");
        thins("(; (A) (A))", "; 3");
        thins("(; (b (n 4)) (A))", "A 1");
        thins("(; (b (0)) (A))", "A 1");
        thins("(; (b (x 1)) (A))", "A 1");
        thins("(; (b (w)) (A))", "A 1");
        thins("(; (b (N)) (A))", "A 1");
        thins("(; (b (b (x 1))) (A))", "; 5");
        thins("(; (b (b (n 1))) (A))", "A 1");
        thins("(; (b (g 1)) (A))", "; 4");
        thins("(; (v (x 1)) (A))", "; 4");
        thins("(; (; (n 1) (n 2)) (A))", "A 1");
        thins("(; (+ (n 1) (n 2)) (; (w) (; (A) (B))))", "; 3");
        thins("(, (n 1) (A))", ", 3");
        thins("(b (n 4))", "n 1 4");
        thins("(b (0))", "b 2");
        thins("(b (b (- (n 4) (n 1))))", "n 1 3");
        thins("(v (n 4))", "v 2");
        thins("(l (n 0) (A))", "0 1");
        thins("(l (< (n 2) (n 1)) (A))", "0 1");
        thins("(l (n 1) (A))", "l 3");
        thins("(l (0) (A))", "l 3");
        thins("(m 1 (b (n 4)))", "m 2");
        thins("(m 1 -1)", "m 1");
        thins("(L 1 -1)", "L 1");
        thins("(c 1 (; (w) (A)))", "c 2");
        thins("(c 1 -1)", "c 1");
        thins("(r -1)", "r 1");
        thins("(r (+ (n 1) (n 1)))", "r 2");
        thins("(f 2 (; (x 0) (A)) (b (n 4)))", "f 3");
        thins("(: (E (+ (n 1) (n 1))) (! (n 3)))", ": 4");
        thins("(p (d (k (x 0))))", "p 4");
        Contextwright x = withSlotNode();
        for (int no : new int[] {-1, 1, Integer.MAX_VALUE, Integer.MIN_VALUE}) {
            Checks.dueCall("thinnedKind of none", () -> x.thinnedKind(no), IOOBE);
            Checks.dueCall("thinnedSize of none", () -> x.thinnedSize(no), IOOBE);
            Checks.dueCall("size of none", () -> x.size(no), IOOBE);
        }
    }

    private static void sizes() {
        Contextwright x = withSlotNode();
        Checks.due("size of a leaf", x.size(0), 1);
        int pair = x.addNode(',', 0, 0, 0);
        Checks.due("size of a pair", x.size(pair), 3);
        Checks.due("size of a choice", x.size(x.addNode('?', pair, pair, 0)), 8);
        Checks.due("size of a call", x.size(x.addNode('c', 2, pair, 0)), 4);
        Checks.due("size of a call without part", x.size(x.addNode('c', 2, -1, 0)), 1);
        Checks.due("size of a loop", x.size(x.addNode('f', 2, pair, pair)), 7);
    }

    private static void thinShare() {
        Contextwright x = withSlotNode();
        int number = x.addNode('n', 3, 0, 0);
        int sum = x.addNode('+', number, number, 0);
        int row = x.addNode(',', sum, 0, 0);
        x.setMain(row);
        Checks.due("thinShare", x.thinShare(), 3.0f / 5.0f);
        x.setMain(sum);
        Checks.due("thinShare of a number", x.thinShare(), 1.0f / 3.0f);
        x.setMain(-1);
        Checks.dueCall("thinShare without main node", () -> x.thinShare(), "ArithmeticException");
        int node = 0;
        int size = 1;
        for (int i = 0; i < 40; i++) {
            node = x.addNode(',', node, node, 0);
            size = 2 * size + 1;
        }
        Contextwright zero = new Contextwright();
        int all = zero.addNode('B', 0, 0, 0);
        for (int i = 1; i < 32; i++) {
            all = zero.addNode(',', all, all, 0);
        }
        Checks.due("a size of 32 ones", zero.size(all), -1);
        all = zero.addNode('d', all, 0, 0);
        Checks.due("a size that goes round to 0", zero.size(all), 0);
        zero.setMain(all);
        Checks.dueCall("thinShare of a plain size of 0", () -> zero.thinShare(), "ArithmeticException");
        zero.setMain(all - 1);
        Checks.due("thinShare of sizes below 0", zero.thinShare(), 1.0f);
        Checks.due("a size that goes round", x.size(node), size);
        Checks.due("a thinned size that goes round", x.thinnedSize(node), size);
    }
}
