import java.util.NoSuchElementException;
import java.util.Random;

/** Compares Contextwright with the Model on random programs; the seeds are fixed. */
public final class ModelTest {
    private static final String KINDS = "n0wNxg@AE+-*<q!?,;:bmLflcrBdvokp";
    private static final String OFTEN = "xxggg@AAE,,,;;;;;::::::bbmmLLffflcccrdvvoooookkppp;;;;,,,,:::";

    private static int wrong = 0;
    private static long endings;
    private static long deaths;
    private static long overs;
    private static long withThings;
    private static long inconsistent;

    public static void main(String[] args) {
        int programs = args.length > 0 ? Integer.parseInt(args[0]) : 6000;
        int first = args.length > 1 ? Integer.parseInt(args[1]) : 0;
        for (int seed = first; seed < first + programs && wrong < 10; seed++) {
            compare(seed);
            compareGrown(seed);
        }
        System.out.println("ModelTest: " + programs + " programs; runs ended " + endings + ", died " + deaths
            + ", over " + overs + "; with things " + withThings + "; not consistent " + inconsistent);
        if (wrong != 0) {
            System.exit(1);
        }
    }

    private static void due(int seed, String what, Object got, Object want) {
        if (!got.equals(want)) {
            wrong++;
            System.out.println("ModelTest: seed " + seed + ": " + what + " answered " + got + ", due is " + want);
        }
    }

    private static void compare(int seed) {
        Random random = new Random(seed);
        Contextwright x = new Contextwright();
        Model m = new Model();
        int wanted = 4 + random.nextInt(45);
        for (int tries = 0; tries < 70 && m.plain.size() < wanted; tries++) {
            addNode(seed, random, x, m);
        }
        for (int round = 0; round < 3; round++) {
            set(seed, random, x, m);
            for (int i = 0; i < 3; i++) {
                run(seed, random, x, m);
            }
            due(seed, "isConsistent", x.isConsistent(), isConsistent(m));
            addNode(seed, random, x, m);
        }
        compareNodes(seed, x, m);
    }

    private static void compareGrown(int seed) {
        Random random = new Random(seed);
        Contextwright x = new Contextwright();
        Model m = new Model();
        Grower grower = new Grower(random, (kind, a, b, c) -> addBoth(seed, x, m, kind, new int[] {a, b, c}));
        grower.number(9);
        setBoth(seed, x, m, new int[] {grower.destructor(), grower.destructor(), grower.statement(3),
            random.nextInt(9) == 0 ? -1 : grower.statement(2)}, grower.statement(9));
        for (int i = 0; i < 4; i++) {
            run(seed, random, x, m);
        }
        due(seed, "isConsistent", x.isConsistent(), isConsistent(m));
        compareNodes(seed, x, m);
    }

    private static void setBoth(int seed, Contextwright x, Model m, int[] bodies, int main) {
        for (int sub = 0; sub < 4; sub++) {
            due(seed, "setSub", x.setSub(sub, bodies[sub]), m.bodies[sub]);
            m.bodies[sub] = bodies[sub];
        }
        due(seed, "setMain", x.setMain(main), m.main);
        m.main = main;
    }

    private static void addNode(int seed, Random random, Contextwright x, Model m) {
        int n = m.plain.size();
        char kind = random.nextInt(3) == 0 || n < 4 ? KINDS.charAt(random.nextInt(KINDS.length()))
            : OFTEN.charAt(random.nextInt(OFTEN.length()));
        String roles = Model.roles(kind);
        int[] numbers = new int[3];
        for (int i = 0; i < 3; i++) {
            numbers[i] = number(random, m, kind, roles.charAt(i), i);
        }
        if (random.nextInt(60) == 0) {
            numbers[random.nextInt(3)] = random.nextInt(60) - 5;
        }
        if (random.nextInt(100) == 0) {
            kind = (char) random.nextInt(128);
        }
        addBoth(seed, x, m, kind, numbers);
    }

    /** The number of the node, or 0 if there is none. */
    private static int addBoth(int seed, Contextwright x, Model m, char kind, int[] numbers) {
        String got;
        String want;
        int before = m.plain.size();
        try {
            got = "" + x.addNode(kind, numbers[0], numbers[1], numbers[2]);
        } catch (IllegalArgumentException | IndexOutOfBoundsException | IllegalStateException e) {
            got = e.getClass().getName();
        }
        try {
            want = "" + m.addNode(kind, numbers[0], numbers[1], numbers[2]);
        } catch (IllegalArgumentException | IndexOutOfBoundsException | IllegalStateException e) {
            want = e.getClass().getName();
        }
        due(seed, "addNode " + kind, got, want);
        return m.plain.size() > before ? before : 0;
    }

    private static int number(Random random, Model m, char kind, char role, int index) {
        switch (role) {
            case 'n': return random.nextInt(4) == 0 ? random.nextInt(1999) - 999 : random.nextInt(6);
            case 's': return random.nextInt(random.nextBoolean() ? 2 : 6);
            case 'v': return random.nextInt(random.nextBoolean() ? 2 : 4);
            case 'd': return random.nextInt(5) - 1;
            case 'o': return random.nextInt(4) == 0 ? -1 : part(random, m, kind, index);
            case 'p': return part(random, m, kind, index);
            default: return 0;
        }
    }

    private static int part(Random random, Model m, char kind, int index) {
        int n = m.plain.size();
        if (n == 0) {
            return 0;
        }
        for (int tries = 0; tries < 30; tries++) {
            int node = random.nextInt(3) == 0 ? random.nextInt(n) : n - 1 - random.nextInt(Math.min(n, 8));
            boolean isGood = !(index == 0 && kind == ':') || m.isTarget(node);
            isGood = isGood && (kind != 'k' || "xg@E".indexOf(m.plain.get(node).kind) >= 0);
            if (isGood) {
                return node;
            }
        }
        return random.nextInt(n);
    }

    private static void set(int seed, Random random, Contextwright x, Model m) {
        int n = m.plain.size();
        int[] bodies = new int[4];
        for (int sub = 0; sub < 4; sub++) {
            bodies[sub] = random.nextInt(6) == 0 ? -1 : n - 1 - random.nextInt(Math.min(n, 20));
        }
        setBoth(seed, x, m, bodies, n - 1 - random.nextInt(Math.min(n, 4)));
        int variable = random.nextInt(4);
        int start = random.nextInt(5) == 0 ? random.nextInt() : random.nextInt(40) - 5;
        due(seed, "setVariable", x.setVariable(variable, start), m.starts[variable]);
        m.starts[variable] = start;
    }

    private static void run(int seed, Random random, Contextwright x, Model m) {
        boolean isThinned = random.nextBoolean();
        int limit = random.nextInt(3) == 0 ? 1 + random.nextInt(30) : 1 + random.nextInt(400);
        long before = x.allSteps();
        due(seed, "run", x.run(isThinned, limit), m.run(isThinned, limit));
        due(seed, "ending", x.ending(), m.ending);
        due(seed, "steps", x.steps(), m.steps);
        due(seed, "allSteps", x.allSteps(), before + m.steps);
        due(seed, "printed", x.printed(), m.printed.size());
        for (int i = 0; i < m.printed.size() && i < x.printed(); i++) {
            due(seed, "printedAt " + i, x.printedAt(i), m.printed.get(i));
        }
        due(seed, "died", died(x), m.hasDied ? "" + Model.asNumber(m.died) : "none");
        for (int i = 0; i < 4; i++) {
            due(seed, "variable", x.variable(i), m.variablesBehind[i]);
        }
        due(seed, "elements", x.elements(), m.elementsBehind.size());
        for (int i = 0; i < m.elementsBehind.size() && i < x.elements(); i++) {
            due(seed, "element", x.element(i), m.elementsBehind.get(i));
        }
        due(seed, "lent", x.lent(), m.lent);
        due(seed, "givenBack", x.givenBack(), m.givenBack);
        due(seed, "lent and givenBack", x.givenBack(), x.lent());
        due(seed, "made", x.made(), m.things.size());
        due(seed, "destroyed", x.destroyed(), m.destroyed);
        for (int i = 0; i < m.things.size() && i < x.made(); i++) {
            due(seed, "gone", x.gone(i), m.things.get(i).rank);
        }
        count(m);
    }

    private static void count(Model m) {
        endings += m.ending == 'e' ? 1 : 0;
        deaths += m.ending == 'd' ? 1 : 0;
        overs += m.ending == 'l' ? 1 : 0;
        withThings += m.things.isEmpty() ? 0 : 1;
    }

    private static String died(Contextwright x) {
        try {
            return "" + x.died();
        } catch (NoSuchElementException e) {
            return "none";
        }
    }

    private static boolean isConsistent(Model m) {
        char plain = m.run(false, 2000);
        String before = behind(m);
        boolean isSound = m.lent == m.givenBack;
        char thin = m.run(true, 2000);
        isSound = isSound && m.lent == m.givenBack;
        boolean isSame = plain == 'l' || thin == 'l' || before.equals(behind(m));
        inconsistent += isSound && isSame ? 0 : 1;
        return isSound && isSame;
    }

    private static String behind(Model m) {
        StringBuilder text = new StringBuilder();
        text.append(m.ending).append(m.printed).append(m.hasDied ? Model.asNumber(m.died) : "none");
        for (int number : m.variablesBehind) {
            text.append(' ').append(number);
        }
        return text.append(m.elementsBehind).toString();
    }

    private static void compareNodes(int seed, Contextwright x, Model m) {
        due(seed, "nodes", x.nodes(), m.plain.size());
        for (int i = 0; i < m.plain.size(); i++) {
            due(seed, "thinnedKind", x.thinnedKind(i), m.thin.get(i).kind);
            if (x.size(i) < 100000 && x.size(i) > 0 && i < 25) {
                due(seed, "size", x.size(i), m.extent(m.plain, i));
                due(seed, "thinnedSize", x.thinnedSize(i), m.extent(m.thin, i));
            }
        }
    }
}
