import java.util.Arrays;
import java.util.NoSuchElementException;

/** A language in which each expression is asked for one value, for many or for none. */
public final class Contextwright {
    private static final int MOST_NODES = 48;
    private static final int SUBS = 4;
    private static final int VARIABLES = 4;
    private static final int SLOTS = 6;
    private static final int MOST_ELEMENTS = 30;
    private static final int MOST_STEPS = 2000;

    private final Program program;
    private final Machine machine;
    private final Outcome last;
    private final Outcome plainCheck;
    private final Outcome thinCheck;
    private boolean wasRun;
    private long stepsOfRuns;

    public Contextwright() {
        program = new Program();
        last = new Outcome();
        machine = new Machine(program, last);
        plainCheck = new Outcome();
        thinCheck = new Outcome();
    }

    // ---- programs

    public int addNode(char kind, int a, int b, int c)
            throws IllegalArgumentException, IndexOutOfBoundsException, IllegalStateException {
        if (!Code.allows(kind, a, b, c)) {
            throw new IllegalArgumentException("no such kind, or a number out of range");
        }
        if (!program.hasParts(kind, a, b, c)) {
            throw new IndexOutOfBoundsException("no such node as a part");
        }
        if (!program.takes(kind, a)) {
            throw new IllegalStateException("no room, or a part of a kind that it cannot be");
        }
        return program.add(kind, a, b, c);
    }

    public int setSub(int sub, int body) throws IndexOutOfBoundsException {
        if (sub < 0 || sub >= SUBS || !program.hasNodeOrNone(body)) {
            throw new IndexOutOfBoundsException("no such sub or node");
        }
        return program.changeBody(sub, body);
    }

    public int setMain(int node) throws IndexOutOfBoundsException {
        if (!program.hasNodeOrNone(node)) {
            throw new IndexOutOfBoundsException("no such node");
        }
        return program.changeMainNode(node);
    }

    public int setVariable(int variable, int number) throws IndexOutOfBoundsException {
        if (variable < 0 || variable >= VARIABLES) {
            throw new IndexOutOfBoundsException("no such package variable");
        }
        return program.changeStart(variable, number);
    }

    public int nodes() {
        return program.plain.count();
    }

    public char thinnedKind(int node) throws IndexOutOfBoundsException {
        if (!program.plain.has(node)) {
            throw new IndexOutOfBoundsException("no such node");
        }
        return program.thin.kindOf(node);
    }

    public int thinnedSize(int node) throws IndexOutOfBoundsException {
        if (!program.plain.has(node)) {
            throw new IndexOutOfBoundsException("no such node");
        }
        return program.thin.extentOf(node);
    }

    public int size(int node) throws IndexOutOfBoundsException {
        if (!program.plain.has(node)) {
            throw new IndexOutOfBoundsException("no such node");
        }
        return program.plain.extentOf(node);
    }

    // ---- runs

    public char run(boolean isThinned, int steps) throws IllegalStateException, IllegalArgumentException {
        if (program.mainNode() < 0) {
            throw new IllegalStateException("no main node");
        }
        if (steps < 1 || steps > MOST_STEPS) {
            throw new IllegalArgumentException("steps out of range");
        }
        machine.carryOut(isThinned ? program.thin : program.plain, steps, last);
        wasRun = true;
        stepsOfRuns += last.steps;
        return last.ending;
    }

    public char ending() throws IllegalStateException {
        if (!wasRun) {
            throw new IllegalStateException("nothing was run");
        }
        return last.ending;
    }

    public int printed() throws IllegalStateException {
        if (!wasRun) {
            throw new IllegalStateException("nothing was run");
        }
        return last.prints.count();
    }

    public int printedAt(int index) throws IllegalStateException, NoSuchElementException {
        if (!wasRun) {
            throw new IllegalStateException("nothing was run");
        }
        if (index < 0 || index >= last.prints.count()) {
            throw new NoSuchElementException("no such printed value");
        }
        return (int) last.prints.get(index);
    }

    public int died() throws IllegalStateException, NoSuchElementException {
        if (!wasRun) {
            throw new IllegalStateException("nothing was run");
        }
        if (!last.hasDied) {
            throw new NoSuchElementException("no value was thrown out of the main node");
        }
        return last.thrown;
    }

    public int steps() throws IllegalStateException {
        if (!wasRun) {
            throw new IllegalStateException("nothing was run");
        }
        return last.steps;
    }

    public int variable(int variable) throws IllegalStateException, IndexOutOfBoundsException {
        if (!wasRun) {
            throw new IllegalStateException("nothing was run");
        }
        if (variable < 0 || variable >= VARIABLES) {
            throw new IndexOutOfBoundsException("no such package variable");
        }
        return last.variables[variable];
    }

    public int elements() throws IllegalStateException {
        if (!wasRun) {
            throw new IllegalStateException("nothing was run");
        }
        return last.elementCount;
    }

    public int element(int index) throws IllegalStateException, NoSuchElementException {
        if (!wasRun) {
            throw new IllegalStateException("nothing was run");
        }
        if (index < 0 || index >= last.elementCount) {
            throw new NoSuchElementException("no such element");
        }
        return last.elements[index];
    }

    public int lent() throws IllegalStateException {
        if (!wasRun) {
            throw new IllegalStateException("nothing was run");
        }
        return last.loans;
    }

    public int givenBack() throws IllegalStateException {
        if (!wasRun) {
            throw new IllegalStateException("nothing was run");
        }
        return last.returns;
    }

    public int made() throws IllegalStateException {
        if (!wasRun) {
            throw new IllegalStateException("nothing was run");
        }
        return last.ranks.count();
    }

    public int destroyed() throws IllegalStateException {
        if (!wasRun) {
            throw new IllegalStateException("nothing was run");
        }
        return last.destructions;
    }

    public int gone(int thing) throws IllegalStateException, NoSuchElementException {
        if (!wasRun) {
            throw new IllegalStateException("nothing was run");
        }
        if (thing < 0 || thing >= last.ranks.count()) {
            throw new NoSuchElementException("no such thing");
        }
        return (int) last.ranks.get(thing);
    }

    public long allSteps() {
        return stepsOfRuns;
    }

    public float thinShare() throws ArithmeticException {
        int node = program.mainNode();
        int whole = program.plain.extentOf(node);
        if (node < 0 || whole == 0) {
            throw new ArithmeticException("no main node, or its plain size is 0");
        }
        return (float) program.thin.extentOf(node) / (float) whole;
    }

    public double meanPrinted() throws IllegalStateException, ArithmeticException {
        if (!wasRun) {
            throw new IllegalStateException("nothing was run");
        }
        int count = last.prints.count();
        if (count == 0) {
            throw new ArithmeticException("nothing was printed");
        }
        return (double) last.sumOfPrints() / (double) count;
    }

    public boolean isConsistent() {
        if (program.mainNode() < 0) {
            return true;
        }
        machine.carryOut(program.plain, MOST_STEPS, plainCheck);
        machine.carryOut(program.thin, MOST_STEPS, thinCheck);
        return plainCheck.isSound() && thinCheck.isSound() && plainCheck.agreesWith(thinCheck);
    }

    /** The values, each packed into a long: a tag above, an int below. */
    private static final class Value {
        static final long NOTHING = 0L;
        static final int NUMBER = 1;
        static final int THING = 2;
        static final int WEAK_THING = 3;
        static final int PLACE = 4;
        static final int ARRAY = 5;
        private static final int FIRST_THING = 1000000;

        static long of(int tag, int low) {
            return ((long) tag << 32) | (low & 0xFFFFFFFFL);
        }

        static long number(int number) {
            return ((long) NUMBER << 32) | (number & 0xFFFFFFFFL);
        }

        static long thing(int thing) {
            return ((long) THING << 32) | (thing & 0xFFFFFFFFL);
        }

        static int tag(long value) {
            return (int) (value >>> 32);
        }

        static int low(long value) {
            return (int) value;
        }

        static int asNumber(long value) {
            switch (tag(value)) {
                case NUMBER: return low(value);
                case THING: return FIRST_THING + low(value);
                default: return 0;
            }
        }

        static int asPrinted(long value) {
            return value == NOTHING ? -FIRST_THING : asNumber(value);
        }

        static boolean isTrue(long value) {
            return tag(value) == THING || asNumber(value) != 0;
        }

        static int reckon(char kind, int left, int right) {
            switch (kind) {
                case '+': return left + right;
                case '-': return left - right;
                case '*': return left * right;
                case '<': return left < right ? 1 : 0;
                default: return left == right ? 1 : 0;
            }
        }
    }

    /** A row of nodes, plain or thinned; parts are numbers of nodes of the same row. */
    private static final class Code {
        private static final String NO_SUCH_KIND = "";
        private final char[] kinds = new char[MOST_NODES];
        private final int[] as = new int[MOST_NODES];
        private final int[] bs = new int[MOST_NODES];
        private final int[] cs = new int[MOST_NODES];
        private final int[] extents = new int[MOST_NODES];
        private int count;

        int count() {
            return count;
        }

        boolean has(int node) {
            return node >= 0 && node < count;
        }

        char kindOf(int node) {
            return node >= 0 && node < count ? kinds[node] : '0';
        }

        int aOf(int node) {
            return node >= 0 && node < count ? as[node] : 0;
        }

        int bOf(int node) {
            return node >= 0 && node < count ? bs[node] : 0;
        }

        int cOf(int node) {
            return node >= 0 && node < count ? cs[node] : 0;
        }

        int extentOf(int node) {
            return node >= 0 && node < count ? extents[node] : 0;
        }

        boolean isNumber(int node) {
            return kindOf(node) == 'n';
        }

        void add(char kind, int a, int b, int c) {
            if (count >= MOST_NODES) {
                return;
            }
            kinds[count] = kind;
            as[count] = a;
            bs[count] = b;
            cs[count] = c;
            extents[count] = 1 + extentOfPart(kind, 0, a) + extentOfPart(kind, 1, b) + extentOfPart(kind, 2, c);
            count++;
        }

        void addCopyOf(int node) {
            add(kindOf(node), aOf(node), bOf(node), cOf(node));
        }

        private int extentOfPart(char kind, int index, int number) {
            return isPart(role(kind, index)) ? extentOf(number) : 0;
        }

        // ---- what the three numbers of a node are, kind by kind

        /** For a, b and c: P a part, Q a part or none, '.' not told, or what inRange tells. */
        static String shapeOf(char kind) {
            switch (kind) {
                case '0': case 'w': case 'N': case 'A': case 'B': return "...";
                case 'n': return "n..";
                case 'x': return "6..";
                case 'g': case '@': return "4..";
                case 'o': return "o..";
                case 'E': case '!': case 'b': case 'd': case 'v': case 'k': case 'p': return "P..";
                case 'r': return "Q..";
                case '+': case '-': case '*': case '<': case 'q': return "PP.";
                case ',': case ';': case ':': case 'l': return "PP.";
                case 'm': return "6Q.";
                case 'L': case 'c': return "4Q.";
                case 'f': return "6PP";
                case '?': return "PPP";
                default: return NO_SUCH_KIND;
            }
        }

        static char role(char kind, int index) {
            String shape = shapeOf(kind);
            return index >= 0 && index < shape.length() ? shape.charAt(index) : '.';
        }

        static boolean allows(char kind, int a, int b, int c) {
            return !shapeOf(kind).isEmpty() && inRange(role(kind, 0), a)
                && inRange(role(kind, 1), b) && inRange(role(kind, 2), c);
        }

        private static boolean inRange(char role, int number) {
            switch (role) {
                case '.': return number == 0;
                case 'n': return number >= -999 && number <= 999;
                case '4': return number >= 0 && number < 4;
                case '6': return number >= 0 && number < SLOTS;
                case 'o': return number >= -1 && number < SUBS;
                default: return true;
            }
        }

        static boolean isPart(char role) {
            return role == 'P' || role == 'Q';
        }

        static boolean isOnePlace(char kind) {
            return kind == 'x' || kind == 'g' || kind == '@' || kind == 'E';
        }

        static boolean doesNothing(char kind) {
            return kind == 'n' || kind == '0' || kind == 'w' || kind == 'N' || kind == 'x';
        }
    }

    /** The nodes, plain and thinned, and what is set for a run. */
    private static final class Program {
        final Code plain = new Code();
        final Code thin = new Code();
        private final boolean[] isTarget = new boolean[MOST_NODES];
        private final int[] bodies = new int[SUBS];
        private final int[] starts = new int[VARIABLES];
        private int mainNode = -1;

        Program() {
            Arrays.fill(bodies, -1);
        }

        boolean hasNodeOrNone(int node) {
            return node == -1 || plain.has(node);
        }

        boolean hasParts(char kind, int a, int b, int c) {
            return hasPart(Code.role(kind, 0), a) && hasPart(Code.role(kind, 1), b)
                && hasPart(Code.role(kind, 2), c);
        }

        private boolean hasPart(char role, int number) {
            switch (role) {
                case 'P': return plain.has(number);
                case 'Q': return hasNodeOrNone(number);
                default: return true;
            }
        }

        /** Whether there is room for a node of this kind, and its part a can be what it is. */
        boolean takes(char kind, int a) {
            if (plain.count() >= MOST_NODES) {
                return false;
            }
            switch (kind) {
                case ':': return plain.has(a) && isTarget[a];
                case 'k': return Code.isOnePlace(plain.kindOf(a));
                default: return true;
            }
        }

        int add(char kind, int a, int b, int c) {
            int node = plain.count();
            if (node < MOST_NODES) {
                isTarget[node] = isTargetKind(kind, a, b);
                addThinned(kind, a, b, c);
                plain.add(kind, a, b, c);
            }
            return node;
        }

        private boolean isTargetKind(char kind, int a, int b) {
            if (kind == ',') {
                return plain.has(a) && plain.has(b) && isTarget[a] && isTarget[b];
            }
            return kind == 'A' || Code.isOnePlace(kind);
        }

        private void addThinned(char kind, int a, int b, int c) {
            switch (kind) {
                case '+': case '-': case '*': case '<': case 'q':
                    if (thin.isNumber(a) && thin.isNumber(b)) {
                        thin.add('n', Value.reckon(kind, thin.aOf(a), thin.aOf(b)), 0, 0);
                        return;
                    }
                    break;
                case '!':
                    if (thin.isNumber(a)) {
                        thin.add('n', thin.aOf(a) == 0 ? 1 : 0, 0, 0);
                        return;
                    }
                    break;
                case '?':
                    if (thin.isNumber(a)) {
                        thin.addCopyOf(thin.aOf(a) != 0 ? b : c);
                        return;
                    }
                    break;
                case ';':
                    if (isIdle(a)) {
                        thin.addCopyOf(b);
                        return;
                    }
                    break;
                case 'b':
                    if (thin.isNumber(a)) {
                        thin.addCopyOf(a);
                        return;
                    }
                    break;
                case 'l':
                    if (thin.isNumber(a) && thin.aOf(a) == 0) {
                        thin.add('0', 0, 0, 0);
                        return;
                    }
                    break;
                default:
                    break;
            }
            thin.add(kind, a, b, c);
        }

        private boolean isIdle(int node) {
            char kind = thin.kindOf(node);
            return Code.doesNothing(kind)
                || (kind == 'b' && Code.doesNothing(thin.kindOf(thin.aOf(node))));
        }

        int bodyOf(int sub) {
            return sub >= 0 && sub < SUBS ? bodies[sub] : -1;
        }

        int changeBody(int sub, int body) {
            int before = bodyOf(sub);
            if (sub >= 0 && sub < SUBS) {
                bodies[sub] = body;
            }
            return before;
        }

        int mainNode() {
            return mainNode;
        }

        int changeMainNode(int node) {
            int before = mainNode;
            mainNode = node;
            return before;
        }

        int startOf(int variable) {
            return variable >= 0 && variable < VARIABLES ? starts[variable] : 0;
        }

        int changeStart(int variable, int number) {
            int before = startOf(variable);
            if (variable >= 0 && variable < VARIABLES) {
                starts[variable] = number;
            }
            return before;
        }
    }

    /** A row that grows, and is used again once it has been cut. */
    private static final class Row {
        // Far above the 30 places a step that a run of 2000 steps can gather.
        private static final int MOST = 1 << 18;
        private long[] cells = new long[32];
        private int count;

        int count() {
            return count;
        }

        long get(int index) {
            return index >= 0 && index < count ? cells[index] : 0L;
        }

        void set(int index, long cell) {
            if (index >= 0 && index < count) {
                cells[index] = cell;
            }
        }

        void add(long cell) {
            if (count >= cells.length && cells.length < MOST) {
                cells = Arrays.copyOf(cells, cells.length * 2);
            }
            if (count < cells.length) {
                cells[count] = cell;
                count++;
            }
        }

        long take() {
            if (count == 0) {
                return 0L;
            }
            count--;
            return cells[count];
        }

        void cut(int length) {
            if (length >= 0 && length < count) {
                count = length;
            }
        }
    }

    /** The things of a run, by their numbers. */
    private static final class Things {
        private int[] destructors = new int[8];
        private int[] runs = new int[8];
        private int[] ranks = new int[8];
        private int[] heldIn = new int[8];
        private int count;
        private int goneCount;
        private int destructions;
        private int round;

        void clear() {
            count = 0;
            goneCount = 0;
            destructions = 0;
            round = 0;
        }

        int make(int destructor) {
            if (count >= destructors.length && count <= MOST_STEPS) {
                grow(count * 2);
            }
            if (count >= destructors.length) {
                return count;
            }
            destructors[count] = destructor;
            runs[count] = 0;
            ranks[count] = -1;
            heldIn[count] = 0;
            count++;
            return count - 1;
        }

        private void grow(int room) {
            if (room > 0) {
                destructors = Arrays.copyOf(destructors, room);
                runs = Arrays.copyOf(runs, room);
                ranks = Arrays.copyOf(ranks, room);
                heldIn = Arrays.copyOf(heldIn, room);
            }
        }

        int count() {
            return count;
        }

        int destructions() {
            return destructions;
        }

        boolean areAllGone() {
            return goneCount == count;
        }

        private boolean has(int thing) {
            return thing >= 0 && thing < count;
        }

        int destructorOf(int thing) {
            return has(thing) ? destructors[thing] : -1;
        }

        int rankOf(int thing) {
            return thing >= 0 && thing < count ? ranks[thing] : -1;
        }

        int runsOf(int thing) {
            return has(thing) ? runs[thing] : 0;
        }

        boolean mustRun(int thing) {
            return destructorOf(thing) >= 0 && runsOf(thing) == 0;
        }

        void noteRun(int thing) {
            if (has(thing)) {
                runs[thing]++;
                destructions++;
            }
        }

        void lose(int thing) {
            if (has(thing) && ranks[thing] < 0) {
                ranks[thing] = goneCount;
                goneCount++;
            }
        }

        void beginRound() {
            round++;
        }

        void hold(int thing) {
            if (thing >= 0 && thing < count) {
                heldIn[thing] = round;
            }
        }

        boolean isHeld(int thing) {
            return has(thing) && heldIn[thing] == round;
        }

        /** The lowest thing that is neither held nor gone, or -1. */
        int firstLoose() {
            for (int thing = 0; thing < count; thing++) {
                if (ranks[thing] < 0 && heldIn[thing] != round) {
                    return thing;
                }
            }
            return -1;
        }
    }

    /**
     * The places, and the values and places that are under way. A place has a handle: its index in
     * the pool (the package variables come first), or, for a fresh place of a list under way, the
     * complement of its index among what is under way.
     */
    private static final class Places {
        private final Things things;
        private final Row pool = new Row();
        private final Row underWay = new Row();
        private final int[] elements = new int[MOST_ELEMENTS];
        private int elementCount;
        // Nothing can have come loose while this is false, so that the search for it can be left out.
        private boolean loosened;

        Places(Things things) {
            this.things = things;
        }

        void clear() {
            pool.cut(0);
            underWay.cut(0);
            elementCount = 0;
            loosened = false;
        }

        int fresh(long value) {
            pool.add(value);
            return pool.count() - 1;
        }

        long raw(int handle) {
            return handle >= 0 ? pool.get(handle) : underWay.get(~handle);
        }

        long read(int handle) {
            long raw = handle >= 0 ? pool.get(handle) : underWay.get(~handle);
            if (Value.tag(raw) != Value.WEAK_THING) {
                return raw;
            }
            int thing = Value.low(raw);
            return things.rankOf(thing) >= 0 ? Value.NOTHING : Value.thing(thing);
        }

        void write(int handle, long value) {
            loosened = true;
            if (handle >= 0) {
                pool.set(handle, value);
            } else {
                underWay.set(~handle, value);
            }
        }

        void weaken(int handle) {
            long raw = raw(handle);
            if (Value.tag(raw) == Value.THING) {
                write(handle, Value.of(Value.WEAK_THING, Value.low(raw)));
            }
        }

        boolean isLoosened() {
            return loosened;
        }

        void noteLoosened(boolean isSo) {
            loosened = isSo;
        }

        int top() {
            return underWay.count();
        }

        long entryAt(int index) {
            return underWay.get(index);
        }

        void push(long value) {
            underWay.add(value);
        }

        void pushPlace(int handle) {
            underWay.add(Value.of(Value.PLACE, handle));
        }

        /** Keeps room for the elements of the array, which nobody has got before they are given. */
        void pushArray() {
            underWay.add(Value.of(Value.ARRAY, 0));
        }

        /** Puts what is under way from base on once more on top, with all elements for the array. */
        void unfold(int base) {
            int end = underWay.count();
            for (int i = base; i < end; i++) {
                long entry = underWay.get(i);
                if (Value.tag(entry) == Value.ARRAY) {
                    pushElements();
                } else {
                    underWay.add(entry);
                }
            }
        }

        int handleAt(int index) {
            long entry = underWay.get(index);
            return Value.tag(entry) == Value.PLACE ? Value.low(entry) : ~index;
        }

        long valueAt(int index) {
            long entry = underWay.get(index);
            return read(Value.tag(entry) == Value.PLACE ? Value.low(entry) : ~index);
        }

        void drop(int base) {
            for (int i = underWay.count() - 1; i >= base && i >= 0 && !loosened; i--) {
                loosened = Value.tag(underWay.get(i)) >= Value.THING;
            }
            underWay.cut(base);
        }

        /** Puts what is under way from an index on in the stead of what is under way from base on. */
        void settle(int base, int from) {
            int length = underWay.count() - from;
            if (from <= base || length < 0) {
                return;
            }
            loosened = true;
            for (int i = 0; i < length; i++) {
                underWay.set(base + i, underWay.get(from + i));
            }
            underWay.cut(base + length);
        }

        /** Makes fresh places with the same values out of the places from base on. */
        void freshen(int base) {
            for (int i = base; i < underWay.count(); i++) {
                if (Value.tag(underWay.get(i)) >= Value.WEAK_THING) {
                    loosened = true;
                    underWay.set(i, valueAt(i));
                }
            }
        }

        int elementCount() {
            return elementCount;
        }

        int elementAt(int index) {
            return index >= 0 && index < elementCount ? elements[index] : 0;
        }

        void addElement(long value) {
            if (elementCount < MOST_ELEMENTS) {
                pool.add(value);
                elements[elementCount] = pool.count() - 1;
                elementCount++;
            }
        }

        void growElementsTo(int index) {
            for (int i = elementCount; i <= index && i < MOST_ELEMENTS; i++) {
                addElement(Value.NOTHING);
            }
        }

        void emptyElements() {
            loosened = true;
            elementCount = 0;
        }

        void pushElements() {
            for (int i = 0; i < elementCount; i++) {
                pushPlace(elements[i]);
            }
        }

        void holdValue(long raw) {
            if (Value.tag(raw) == Value.THING) {
                things.hold(Value.low(raw));
            }
        }

        void holdPlace(int handle) {
            holdValue(handle >= 0 ? pool.get(handle) : underWay.get(~handle));
        }

        void holdOwn() {
            for (int i = 0; i < VARIABLES; i++) {
                holdValue(pool.get(i));
            }
            for (int i = 0; i < elementCount; i++) {
                holdValue(pool.get(elements[i]));
            }
            for (int i = 0; i < underWay.count(); i++) {
                holdPlace(handleAt(i));
            }
        }
    }

    /** The main node and the subs that are carried out, and the slots that will be again. */
    private static final class Subs {
        private static final int MOST_OPEN = 7;
        private final Places places;
        private final int[] slots = new int[MOST_OPEN * SLOTS];
        private final int[] firstArguments = new int[MOST_OPEN];
        private final int[] argumentCounts = new int[MOST_OPEN];
        private final int[] wants = new int[MOST_OPEN];
        private final int[] loops = new int[MOST_OPEN];
        private final Row saved = new Row();
        private int now;

        Subs(Places places) {
            this.places = places;
        }

        /** Opens the main node, which is the one numbered 0. */
        void begin() {
            saved.cut(0);
            now = -1;
            enter(0, 0, 0);
        }

        boolean isFull() {
            return now + 1 >= MOST_OPEN;
        }

        void enter(int want, int firstArgument, int argumentCount) {
            if (now + 1 >= MOST_OPEN) {
                return;
            }
            now++;
            wants[now] = want;
            firstArguments[now] = firstArgument;
            argumentCounts[now] = argumentCount;
            loops[now] = 0;
            for (int i = 0; i < SLOTS; i++) {
                changeSlot(i, places.fresh(Value.NOTHING));
            }
        }

        void leave() {
            if (now > 0) {
                now--;
                places.noteLoosened(true);
            }
        }

        private boolean isOpen() {
            return now >= 0 && now < MOST_OPEN;
        }

        int want() {
            return isOpen() ? wants[now] : 0;
        }

        int argumentCount() {
            return isOpen() ? argumentCounts[now] : 0;
        }

        int argument(int index) {
            return places.handleAt(isOpen() ? firstArguments[now] + index : 0);
        }

        boolean isInLoop() {
            return isOpen() && loops[now] > 0;
        }

        void beginLoop() {
            if (isOpen()) {
                loops[now]++;
            }
        }

        void endLoop() {
            if (isOpen()) {
                loops[now]--;
            }
        }

        int slot(int index) {
            int at = now * SLOTS + index;
            return at >= 0 && at < slots.length ? slots[at] : 0;
        }

        void changeSlot(int index, int handle) {
            int at = now * SLOTS + index;
            if (at >= 0 && at < slots.length) {
                slots[at] = handle;
                places.noteLoosened(true);
            }
        }

        void saveSlot(int index) {
            saved.add(slot(index));
        }

        void restoreSlot(int index) {
            changeSlot(index, (int) saved.take());
        }

        void saveSlots() {
            for (int i = 0; i < SLOTS; i++) {
                saveSlot(i);
            }
        }

        void restoreSlots() {
            for (int i = SLOTS - 1; i >= 0; i--) {
                changeSlot(i, (int) saved.take());
            }
        }

        void holdSlots() {
            for (int i = 0; i < (now + 1) * SLOTS && i < slots.length; i++) {
                places.holdPlace(slots[i]);
            }
            for (int i = 0; i < saved.count(); i++) {
                places.holdPlace((int) saved.get(i));
            }
        }
    }

    /** The package variables that are lent, with what they held before. */
    private static final class Loans {
        private final Places places;
        private final Row variables = new Row();
        private final Row before = new Row();
        private int lentCount;
        private int returnCount;

        Loans(Places places) {
            this.places = places;
        }

        void clear() {
            variables.cut(0);
            before.cut(0);
            lentCount = 0;
            returnCount = 0;
        }

        int mark() {
            return variables.count();
        }

        void lend(int variable, long value) {
            variables.add(variable);
            before.add(places.raw(variable));
            places.write(variable, value);
            lentCount++;
        }

        void giveBackTo(int mark) {
            for (int i = variables.count(); i > mark; i--) {
                places.write((int) variables.take(), before.take());
                returnCount++;
            }
        }

        int lentCount() {
            return lentCount;
        }

        int returnCount() {
            return returnCount;
        }

        void holdBefore() {
            for (int i = 0; i < before.count(); i++) {
                places.holdValue(before.get(i));
            }
        }
    }

    /** What is left of a run. */
    private static final class Outcome {
        final Row prints = new Row();
        final Row ranks = new Row();
        final int[] variables = new int[VARIABLES];
        final int[] elements = new int[MOST_ELEMENTS];
        char ending;
        boolean hasDied;
        int thrown;
        int steps;
        int elementCount;
        int loans;
        int returns;
        int destructions;
        boolean ranTwice;

        void clear() {
            prints.cut(0);
            ranks.cut(0);
            hasDied = false;
            thrown = 0;
        }

        void keepPlaces(Places places) {
            for (int i = 0; i < VARIABLES; i++) {
                variables[i] = Value.asNumber(places.read(i));
            }
            elementCount = places.elementCount();
            for (int i = 0; i < elementCount && i < MOST_ELEMENTS; i++) {
                elements[i] = Value.asNumber(places.read(places.elementAt(i)));
            }
        }

        void keepDeath(long value) {
            hasDied = true;
            thrown = Value.asNumber(value);
        }

        void keepThings(Things things) {
            ranTwice = false;
            for (int i = 0; i < things.count(); i++) {
                ranks.add(things.rankOf(i));
                ranTwice = ranTwice || things.runsOf(i) > 1;
            }
            destructions = things.destructions();
        }

        void keepLoans(Loans kept) {
            loans = kept.lentCount();
            returns = kept.returnCount();
        }

        void keepEnd(int stepCount, boolean isOver) {
            steps = stepCount;
            ending = hasDied ? 'd' : 'e';
            if (isOver) {
                ending = 'l';
            }
        }

        long sumOfPrints() {
            long sum = 0;
            for (int i = 0; i < prints.count(); i++) {
                sum += prints.get(i);
            }
            return sum;
        }

        boolean isSound() {
            return loans == returns && !ranTwice;
        }

        boolean agreesWith(Outcome other) {
            if (ending == 'l' || other.ending == 'l') {
                return true;
            }
            return ending == other.ending && thrown == other.thrown
                && isSame(prints, other.prints) && hasSamePlaces(other);
        }

        private static boolean isSame(Row one, Row other) {
            boolean isSame = one.count() == other.count();
            for (int i = 0; i < one.count() && isSame; i++) {
                isSame = one.get(i) == other.get(i);
            }
            return isSame;
        }

        private boolean hasSamePlaces(Outcome other) {
            boolean isSame = elementCount == other.elementCount;
            for (int i = 0; i < VARIABLES; i++) {
                isSame = isSame && variables[i] == other.variables[i];
            }
            for (int i = 0; i < elementCount && i < MOST_ELEMENTS; i++) {
                isSame = isSame && elements[i] == other.elements[i];
            }
            return isSame;
        }
    }

    /** A node that is asked and not done yet. What x and y are depends on its kind. */
    private static final class Frame {
        char kind;
        int a;
        int b;
        int c;
        int want;
        int state;
        int base;
        int x;
        int y;
        Frame owner;
    }

    /**
     * Carries out a program with a row of frames of its own, since nodes may be asked within one
     * another deeper than Java calls may be.
     */
    private static final class Machine {
        // For what a node is asked; a TARGET is a comma that a list assignment asks for many.
        private static final int NONE = 0;
        private static final int ONE = 1;
        private static final int MANY = 2;
        private static final int TARGET = 3;

        // Why nodes are being left.
        private static final int STAYING = 0;
        private static final int THROWING = 1;
        private static final int LEAVING_SUB = 2;
        private static final int LEAVING_LOOP = 3;
        private static final int OVER = 4;

        private static final char MAIN = 'M';
        private static final char DESTRUCTOR = 'D';

        private static final int NO_INDEX = 900;
        private static final int TOO_DEEP = 901;
        private static final int NO_LOOP = 902;
        private static final int CAUGHT = 3;

        // The main node and six subs, each as deep as there are nodes, and what calls them.
        private static final int MOST_FRAMES = 7 * MOST_NODES + 8;
        private static final int MOST_TURNS = 1000000;

        private final Program program;
        private final Things things = new Things();
        private final Places places = new Places(things);
        private final Subs subs = new Subs(places);
        private final Loans loans = new Loans(places);
        private final Frame[] frames = new Frame[MOST_FRAMES];
        private Code code;
        private Outcome outcome;
        private int depth;
        private int limit;
        private int steps;
        private int leaving;
        private long thrown;
        private int given;
        private int taken;
        private boolean isDone;
        private boolean isDestroying;
        private boolean isEnding;

        Machine(Program program, Outcome outcome) {
            this.program = program;
            this.outcome = outcome;
            code = program.plain;
        }

        void carryOut(Code which, int allowed, Outcome result) {
            begin(which, allowed, result);
            for (int turn = 0; turn < MOST_TURNS && depth > 0 && depth <= MOST_FRAMES; turn++) {
                Frame f = frames[depth - 1];
                if (f == null) {
                    break;
                }
                if (isDone) {
                    lookAfterThings();
                } else if (leaving != STAYING) {
                    unwind(f);
                } else if (isEnding && f.kind == MAIN) {
                    takeNextThing(f);
                } else {
                    advance(f);
                }
            }
            result.keepThings(things);
            result.keepLoans(loans);
            result.keepEnd(steps, leaving == OVER);
        }

        private void begin(Code which, int allowed, Outcome result) {
            code = which;
            limit = allowed;
            outcome = result;
            outcome.clear();
            things.clear();
            places.clear();
            loans.clear();
            depth = 0;
            steps = 0;
            leaving = STAYING;
            taken = -1;
            isDone = false;
            isDestroying = false;
            isEnding = false;
            for (int i = 0; i < VARIABLES; i++) {
                places.fresh(Value.number(program.startOf(i)));
            }
            subs.begin();
            open(MAIN, NONE, 0);
        }

        // ---- frames

        private Frame open(char kind, int want, int base) {
            int index = depth < MOST_FRAMES ? depth : MOST_FRAMES - 1;
            Frame f = frames[index];
            if (f == null) {
                f = new Frame();
                frames[index] = f;
            }
            depth = index + 1;
            f.kind = kind;
            f.want = want;
            f.state = 0;
            f.base = base;
            return f;
        }

        private void ask(int node, int want, Frame owner) {
            if (steps >= limit) {
                leaving = OVER;
                return;
            }
            steps++;
            Frame f = open(code.kindOf(node), want, places.top());
            f.a = code.aOf(node);
            f.b = code.bOf(node);
            f.c = code.cOf(node);
            f.owner = owner;
        }

        private void askNext(Frame f, int node, int want) {
            f.state++;
            ask(node, want, f);
        }

        private void done() {
            depth--;
            isDone = !isDestroying;
        }

        private void giveValue(Frame f, long value) {
            places.drop(f.base);
            if (f.want != NONE) {
                places.push(value);
            }
            done();
        }

        private void giveNothing(Frame f) {
            places.drop(f.base);
            if (f.want == ONE) {
                places.push(Value.NOTHING);
            }
            done();
        }

        private void givePlace(Frame f, int handle) {
            if (f.want == MANY) {
                places.drop(f.base);
                places.pushPlace(handle);
                done();
            } else {
                giveValue(f, places.read(handle));
            }
        }

        private void giveFrom(Frame f, int from) {
            places.settle(f.base, from);
            done();
        }

        private void throwNumber(int number) {
            leaving = THROWING;
            thrown = Value.number(number);
        }

        private void advance(Frame f) {
            switch (f.kind) {
                case 'n': giveValue(f, Value.number(f.a)); break;
                case 'w': giveValue(f, Value.number(subs.want())); break;
                case 'N': giveValue(f, Value.number(subs.argumentCount())); break;
                case 'x': givePlace(f, subs.slot(f.a)); break;
                case 'g': givePlace(f, f.a); break;
                case '@': giveArgument(f); break;
                case 'A': giveArray(f); break;
                case 'E': giveElement(f); break;
                case '+': case '-': case '*': case '<': case 'q': reckon(f); break;
                case '!': negate(f); break;
                case '?': choose(f); break;
                case ',': if (f.want == TARGET) { joinTargets(f); } else { join(f); } break;
                case ';': follow(f); break;
                case ':': if (isList(f.a)) { assignList(f); } else { assignOne(f); } break;
                case 'b': case 'v': carryOutBlock(f); break;
                case 'm': renewSlot(f); break;
                case 'L': lend(f); break;
                case 'f': goThrough(f); break;
                case 'l': repeat(f); break;
                case 'c': call(f); break;
                case 'r': leaveSub(f); break;
                case 'B': leaveLoop(); break;
                case 'd': throwPart(f); break;
                case 'o': makeThing(f); break;
                case 'k': weaken(f); break;
                case 'p': print(f); break;
                case MAIN: carryOutMain(f); break;
                case DESTRUCTOR: closeDestructor(f); break;
                default: giveNothing(f); break;
            }
        }

        // ---- values and places

        private void giveArgument(Frame f) {
            if (f.a < subs.argumentCount()) {
                givePlace(f, subs.argument(f.a));
            } else {
                giveValue(f, Value.NOTHING);
            }
        }

        private void giveArray(Frame f) {
            if (f.want == MANY) {
                places.pushElements();
                done();
            } else {
                giveValue(f, Value.number(places.elementCount()));
            }
        }

        private void giveElement(Frame f) {
            if (f.state == 0) {
                askNext(f, f.a, ONE);
                return;
            }
            int index = Value.asNumber(places.valueAt(f.base));
            if (index < 0 || index >= MOST_ELEMENTS) {
                throwNumber(NO_INDEX);
                return;
            }
            if (f.want == MANY) {
                places.growElementsTo(index);
            }
            if (index < places.elementCount()) {
                givePlace(f, places.elementAt(index));
            } else {
                giveValue(f, Value.NOTHING);
            }
        }

        private void reckon(Frame f) {
            if (f.state < 2) {
                askNext(f, f.state == 0 ? f.a : f.b, ONE);
                return;
            }
            int left = Value.asNumber(places.valueAt(f.base));
            int right = Value.asNumber(places.valueAt(f.base + 1));
            giveValue(f, Value.number(Value.reckon(f.kind, left, right)));
        }

        private void negate(Frame f) {
            if (f.state == 0) {
                askNext(f, f.a, ONE);
                return;
            }
            giveValue(f, Value.number(Value.isTrue(places.valueAt(f.base)) ? 0 : 1));
        }

        private void choose(Frame f) {
            if (f.state == 0) {
                askNext(f, f.a, ONE);
            } else if (f.state == 1) {
                askNext(f, Value.isTrue(places.valueAt(f.base)) ? f.b : f.c, f.want);
            } else {
                giveFrom(f, f.base + 1);
            }
        }

        private void join(Frame f) {
            if (f.state == 0) {
                askNext(f, f.a, f.want == MANY ? MANY : NONE);
            } else if (f.state == 1) {
                askNext(f, f.b, f.want);
            } else {
                done();
            }
        }

        private void follow(Frame f) {
            if (f.state == 0) {
                askNext(f, f.a, NONE);
            } else if (f.state == 1) {
                askNext(f, f.b, f.want);
            } else {
                done();
            }
        }

        private void print(Frame f) {
            if (f.state == 0) {
                askNext(f, f.a, MANY);
                return;
            }
            int count = places.top() - f.base;
            for (int i = 0; i < count; i++) {
                outcome.prints.add(Value.asPrinted(places.valueAt(f.base + i)));
            }
            giveValue(f, Value.number(count));
        }

        // ---- assignments

        private boolean isList(int node) {
            char kind = code.kindOf(node);
            return kind == ',' || kind == 'A';
        }

        private void assignOne(Frame f) {
            if (f.state == 0) {
                askNext(f, f.b, ONE);
                return;
            }
            if (f.state == 1) {
                askNext(f, f.a, MANY);
                return;
            }
            long value = places.valueAt(f.base);
            places.write(places.handleAt(f.base + 1), value);
            if (f.want == MANY) {
                giveFrom(f, f.base + 1);
            } else {
                giveValue(f, value);
            }
        }

        /** Here x is the number of values, which lie above the places that held them, and y the next one. */
        private void assignList(Frame f) {
            if (f.state == 0) {
                askNext(f, f.b, MANY);
                return;
            }
            if (f.state == 1) {
                f.x = places.top() - f.base;
                f.y = 0;
                for (int i = 0; i < f.x; i++) {
                    places.push(places.valueAt(f.base + i));
                }
                f.state = 2;
                ask(f.a, wantOfTarget(f.a), f);
                return;
            }
            fillTarget(f.a, f);
            if (f.want == MANY) {
                int end = places.top();
                places.unfold(f.base + 2 * f.x);
                giveFrom(f, end);
            } else {
                giveValue(f, Value.number(f.x));
            }
        }

        private void joinTargets(Frame f) {
            if (f.state == 0) {
                f.state = 1;
                ask(f.a, wantOfTarget(f.a), f.owner);
            } else if (f.state == 1) {
                fillTarget(f.a, f.owner);
                f.state = 2;
                ask(f.b, wantOfTarget(f.b), f.owner);
            } else {
                fillTarget(f.b, f.owner);
                done();
            }
        }

        private int wantOfTarget(int node) {
            switch (code.kindOf(node)) {
                case ',': return TARGET;
                case 'A': return NONE;
                default: return MANY;
            }
        }

        private void fillTarget(int node, Frame owner) {
            char kind = code.kindOf(node);
            if (owner == null || kind == ',') {
                return;
            }
            if (kind != 'A') {
                places.write(places.handleAt(places.top() - 1), nextValue(owner));
                return;
            }
            places.emptyElements();
            for (int i = 0; i < MOST_ELEMENTS && owner.y < owner.x; i++) {
                places.addElement(nextValue(owner));
            }
            places.pushArray();
        }

        private long nextValue(Frame owner) {
            if (owner.y >= owner.x) {
                return Value.NOTHING;
            }
            owner.y++;
            return places.entryAt(owner.base + owner.x + owner.y - 1);
        }

        // ---- blocks, slots, loans and loops

        /** Here x is how many loans there were ahead of the block. */
        private void carryOutBlock(Frame f) {
            if (f.state == 0) {
                f.x = loans.mark();
                subs.saveSlots();
                askNext(f, f.a, f.want);
                return;
            }
            places.freshen(f.base);
            closeBlock(f);
            done();
        }

        private void closeBlock(Frame f) {
            loans.giveBackTo(f.x);
            subs.restoreSlots();
        }

        private void renewSlot(Frame f) {
            if (f.state == 0 && f.b >= 0) {
                askNext(f, f.b, ONE);
                return;
            }
            int handle = places.fresh(f.b >= 0 ? places.valueAt(f.base) : Value.NOTHING);
            subs.changeSlot(f.a, handle);
            givePlace(f, handle);
        }

        private void lend(Frame f) {
            if (f.state == 0 && f.b >= 0) {
                askNext(f, f.b, ONE);
                return;
            }
            loans.lend(f.a, f.b >= 0 ? places.valueAt(f.base) : Value.NOTHING);
            givePlace(f, f.a);
        }

        /** Here x is the index of the next place under way, and y the one behind the last. */
        private void goThrough(Frame f) {
            if (f.state == 0) {
                askNext(f, f.b, MANY);
                return;
            }
            if (f.state == 1) {
                f.state = 2;
                f.x = f.base;
                f.y = places.top();
                subs.saveSlot(f.a);
                subs.beginLoop();
            }
            if (f.x < f.y) {
                subs.changeSlot(f.a, places.handleAt(f.x));
                f.x++;
                ask(f.c, NONE, f);
            } else {
                closeGoThrough(f);
                giveNothing(f);
            }
        }

        private void closeGoThrough(Frame f) {
            subs.restoreSlot(f.a);
            subs.endLoop();
        }

        private void repeat(Frame f) {
            if (f.state == 0) {
                subs.beginLoop();
            }
            if (f.state != 1) {
                f.state = 1;
                ask(f.a, ONE, f);
                return;
            }
            if (Value.isTrue(places.valueAt(f.base))) {
                places.drop(f.base);
                f.state = 2;
                ask(f.b, NONE, f);
            } else {
                subs.endLoop();
                giveNothing(f);
            }
        }

        private void leaveLoop() {
            if (subs.isInLoop()) {
                leaving = LEAVING_LOOP;
            } else {
                throwNumber(NO_LOOP);
            }
        }

        private void throwPart(Frame f) {
            if (f.state == 0) {
                askNext(f, f.a, ONE);
                return;
            }
            leaving = THROWING;
            thrown = places.valueAt(f.base);
        }

        // ---- subs

        /** Here x is how many loans there were ahead of the sub, and y where its values begin. */
        private void call(Frame f) {
            if (f.state == 0 && f.b >= 0) {
                askNext(f, f.b, MANY);
                return;
            }
            if (f.state == 2) {
                places.freshen(f.y);
                closeSub(f);
                giveFrom(f, f.y);
                return;
            }
            if (subs.isFull()) {
                throwNumber(TOO_DEEP);
                return;
            }
            int body = program.bodyOf(f.a);
            if (body < 0) {
                giveNothing(f);
                return;
            }
            f.x = loans.mark();
            f.y = places.top();
            f.state = 2;
            subs.enter(f.want, f.base, f.y - f.base);
            ask(body, f.want, f);
        }

        private void closeSub(Frame f) {
            loans.giveBackTo(f.x);
            subs.leave();
        }

        private void leaveSub(Frame f) {
            int want = subs.want();
            if (f.state == 0 && f.a >= 0) {
                askNext(f, f.a, want);
                return;
            }
            if (f.a < 0 && want == ONE) {
                places.push(Value.NOTHING);
            }
            // The values are taken here, ahead of the ends of the blocks between here and the sub.
            places.freshen(f.base);
            given = f.base;
            leaving = LEAVING_SUB;
        }

        private void carryOutMain(Frame f) {
            if (f.state == 0) {
                askNext(f, program.mainNode(), NONE);
            } else {
                endMain(f);
            }
        }

        /** From here on x is the next thing to be taken. */
        private void endMain(Frame f) {
            loans.giveBackTo(0);
            outcome.keepPlaces(places);
            isEnding = true;
            f.x = 0;
        }

        // ---- things

        private void makeThing(Frame f) {
            places.noteLoosened(true);
            giveValue(f, Value.thing(things.make(f.a)));
        }

        private void weaken(Frame f) {
            if (f.state == 0) {
                askNext(f, f.a, MANY);
                return;
            }
            long value = places.valueAt(f.base);
            places.weaken(places.handleAt(f.base));
            giveValue(f, value);
        }

        private void takeNextThing(Frame f) {
            if (f.x >= things.count()) {
                depth--;
                return;
            }
            int thing = f.x;
            f.x++;
            if (things.rankOf(thing) < 0 && !beginDestructor(thing)) {
                things.lose(thing);
            }
        }

        private void lookAfterThings() {
            isDone = false;
            if (!places.isLoosened() || things.areAllGone()) {
                return;
            }
            holdThings();
            if (taken >= 0 && !things.isHeld(taken)) {
                things.lose(taken);
            }
            taken = -1;
            for (int i = 0; i < things.count(); i++) {
                int thing = things.firstLoose();
                if (thing < 0) {
                    break;
                }
                if (beginDestructor(thing)) {
                    return;
                }
                things.lose(thing);
            }
            places.noteLoosened(false);
        }

        private void holdThings() {
            things.beginRound();
            places.holdOwn();
            subs.holdSlots();
            loans.holdBefore();
        }

        /** Runs the destructor of a thing; false if there is nothing to be carried out for it. */
        private boolean beginDestructor(int thing) {
            if (!things.mustRun(thing)) {
                return false;
            }
            things.noteRun(thing);
            int body = program.bodyOf(things.destructorOf(thing));
            if (subs.isFull() || body < 0) {
                return false;
            }
            // Its x is how many loans there were ahead of it, and y the thing.
            Frame f = open(DESTRUCTOR, NONE, places.top());
            f.x = loans.mark();
            f.y = thing;
            places.push(Value.thing(thing));
            subs.enter(NONE, f.base, 1);
            isDestroying = true;
            ask(body, NONE, f);
            return true;
        }

        private void closeDestructor(Frame f) {
            closeSub(f);
            places.drop(f.base);
            depth--;
            isDestroying = false;
            if (leaving == OVER) {
                return;
            }
            leaving = STAYING;
            if (isEnding) {
                things.lose(f.y);
            } else {
                taken = f.y;
                isDone = true;
            }
        }

        // ---- ways out

        private void unwind(Frame f) {
            switch (f.kind) {
                case 'b': case 'v': unwindBlock(f); break;
                case 'f': case 'l': unwindLoop(f); break;
                case 'c': unwindCall(f); break;
                case MAIN: unwindMain(f); break;
                case DESTRUCTOR: closeDestructor(f); break;
                default: depth--; break;
            }
        }

        private void unwindBlock(Frame f) {
            closeBlock(f);
            if (f.kind == 'v' && leaving == THROWING) {
                leaving = STAYING;
                places.write(CAUGHT, thrown);
                giveNothing(f);
            } else {
                depth--;
            }
        }

        private void unwindLoop(Frame f) {
            if (f.kind == 'f' && f.state < 2) {
                depth--;
                return;
            }
            if (f.kind == 'f') {
                closeGoThrough(f);
            } else {
                subs.endLoop();
            }
            if (leaving == LEAVING_LOOP) {
                leaving = STAYING;
                giveNothing(f);
            } else {
                depth--;
            }
        }

        private void unwindCall(Frame f) {
            if (f.state < 2) {
                depth--;
                return;
            }
            closeSub(f);
            if (leaving == LEAVING_SUB) {
                leaving = STAYING;
                giveFrom(f, given);
            } else {
                depth--;
            }
        }

        private void unwindMain(Frame f) {
            if (!isEnding) {
                endMain(f);
                if (leaving == THROWING) {
                    outcome.keepDeath(thrown);
                }
            }
            if (leaving == OVER) {
                depth--;
            } else {
                leaving = STAYING;
                places.drop(0);
            }
        }
    }
}
