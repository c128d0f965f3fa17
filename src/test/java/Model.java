import java.util.ArrayList;
import java.util.HashSet;
import java.util.List;
import java.util.NoSuchElementException;
import java.util.Set;

/**
 * The document told a second time, as plainly as Java allows: recursive, with objects for places and
 * things and exceptions for the ways out. Contextwright is compared with it on random programs.
 */
final class Model {
    static final int NONE = 0;
    static final int ONE = 1;
    static final int MANY = 2;

    static final class Thing {
        int number;
        int destructor;
        int runs;
        int rank = -1;
    }

    static final class Place {
        Object value;
        boolean weak;

        Place(Object value) {
            this.value = value;
        }

        Object get() {
            if (weak && value instanceof Thing && ((Thing) value).rank >= 0) {
                return null;
            }
            return value;
        }

        void put(Object value) {
            this.value = value;
            weak = false;
        }
    }

    static final class Node {
        char kind;
        int a;
        int b;
        int c;

        Node(char kind, int a, int b, int c) {
            this.kind = kind;
            this.a = a;
            this.b = b;
            this.c = c;
        }
    }

    static final class Sub {
        Place[] slots = new Place[6];
        List<Place> arguments = new ArrayList<>();
        int want;
        int loops;

        Sub() {
            for (int i = 0; i < 6; i++) {
                slots[i] = new Place(null);
            }
        }
    }

    static final class Loan {
        int variable;
        Object value;
        boolean weak;
    }

    static class Way extends RuntimeException {
        Way() {
            super(null, null, false, false);
        }
    }

    static final class Thrown extends Way {
        Object value;

        Thrown(Object value) {
            this.value = value;
        }
    }

    static final class LeaveSub extends Way {
        List<Object> given;

        LeaveSub(List<Object> given) {
            this.given = given;
        }
    }

    static final class LeaveLoop extends Way {
    }

    static final class Over extends Way {
    }

    // ---- programs

    final List<Node> plain = new ArrayList<>();
    final List<Node> thin = new ArrayList<>();
    final int[] bodies = {-1, -1, -1, -1};
    final int[] starts = new int[4];
    int main = -1;

    static String roles(char kind) {
        if ("0wNAB".indexOf(kind) >= 0) {
            return "---";
        }
        if ("E!bdvkp".indexOf(kind) >= 0) {
            return "p--";
        }
        if ("+-*<q,;:l".indexOf(kind) >= 0) {
            return "pp-";
        }
        switch (kind) {
            case 'n': return "n--";
            case 'x': return "s--";
            case 'g': case '@': return "v--";
            case '?': return "ppp";
            case 'm': return "so-";
            case 'L': case 'c': return "vo-";
            case 'f': return "spp";
            case 'r': return "o--";
            case 'o': return "d--";
            default: return null;
        }
    }

    static boolean isWrongNumber(char role, int number) {
        switch (role) {
            case '-': return number != 0;
            case 'n': return number < -999 || number > 999;
            case 's': return number < 0 || number > 5;
            case 'v': return number < 0 || number > 3;
            case 'd': return number < -1 || number > 3;
            default: return false;
        }
    }

    boolean isTarget(int node) {
        Node n = plain.get(node);
        return "xg@EA".indexOf(n.kind) >= 0 || n.kind == ',' && isTarget(n.a) && isTarget(n.b);
    }

    int addNode(char kind, int a, int b, int c) {
        String roles = roles(kind);
        int[] numbers = {a, b, c};
        if (roles == null) {
            throw new IllegalArgumentException();
        }
        for (int i = 0; i < 3; i++) {
            if (isWrongNumber(roles.charAt(i), numbers[i])) {
                throw new IllegalArgumentException();
            }
        }
        for (int i = 0; i < 3; i++) {
            boolean isNone = roles.charAt(i) == 'o' && numbers[i] == -1;
            if ("po".indexOf(roles.charAt(i)) >= 0 && !isNone && (numbers[i] < 0 || numbers[i] >= plain.size())) {
                throw new IndexOutOfBoundsException();
            }
        }
        if (plain.size() == 48 || kind == ':' && !isTarget(a)
            || kind == 'k' && "xg@E".indexOf(plain.get(a).kind) < 0) {
            throw new IllegalStateException();
        }
        plain.add(new Node(kind, a, b, c));
        thin.add(thinned(plain.get(plain.size() - 1)));
        return plain.size() - 1;
    }

    Node thinned(Node n) {
        Node a = roles(n.kind).charAt(0) == 'p' ? thin.get(n.a) : null;
        Node b = roles(n.kind).charAt(1) == 'p' ? thin.get(n.b) : null;
        boolean isNumber = a != null && a.kind == 'n';
        if ("+-*<q".indexOf(n.kind) >= 0 && isNumber && b.kind == 'n') {
            return new Node('n', reckon(n.kind, a.a, b.a), 0, 0);
        }
        if (n.kind == '!' && isNumber) {
            return new Node('n', a.a != 0 ? 0 : 1, 0, 0);
        }
        if (n.kind == '?' && isNumber) {
            return thin.get(a.a != 0 ? n.b : n.c);
        }
        if (n.kind == ';' && ("n0wNx".indexOf(a.kind) >= 0
            || a.kind == 'b' && "n0wNx".indexOf(thin.get(a.a).kind) >= 0)) {
            return b;
        }
        if (n.kind == 'b' && isNumber) {
            return a;
        }
        if (n.kind == 'l' && isNumber && a.a == 0) {
            return new Node('0', 0, 0, 0);
        }
        return n;
    }

    static int reckon(char kind, int left, int right) {
        switch (kind) {
            case '+': return left + right;
            case '-': return left - right;
            case '*': return left * right;
            case '<': return left < right ? 1 : 0;
            default: return left == right ? 1 : 0;
        }
    }

    int extent(List<Node> nodes, int node) {
        Node n = nodes.get(node);
        int[] numbers = {n.a, n.b, n.c};
        int extent = 1;
        for (int i = 0; i < 3; i++) {
            if ("po".indexOf(roles(n.kind).charAt(i)) >= 0 && numbers[i] >= 0) {
                extent += extent(nodes, numbers[i]);
            }
        }
        return extent;
    }

    // ---- a run

    List<Node> nodes;
    int limit;
    int steps;
    List<Integer> printed = new ArrayList<>();
    List<Thing> things = new ArrayList<>();
    int rank;
    int destroyed;
    Place[] variables = new Place[4];
    List<Place> array = new ArrayList<>();
    List<Loan> loans = new ArrayList<>();
    int lent;
    int givenBack;
    List<Sub> subs = new ArrayList<>();
    List<Place> savedSlots = new ArrayList<>();
    List<Object> underWay = new ArrayList<>();
    boolean isDestroying;
    char ending;
    Object died;
    boolean hasDied;
    int[] variablesBehind = new int[4];
    List<Integer> elementsBehind = new ArrayList<>();

    static int asNumber(Object value) {
        if (value == null) {
            return 0;
        }
        return value instanceof Thing ? 1000000 + ((Thing) value).number : (Integer) value;
    }

    static boolean isTrue(Object value) {
        return value instanceof Thing || asNumber(value) != 0;
    }

    char run(boolean isThinned, int allowed) {
        nodes = isThinned ? thin : plain;
        limit = allowed;
        steps = 0;
        printed.clear();
        things.clear();
        rank = 0;
        destroyed = 0;
        array.clear();
        loans.clear();
        lent = 0;
        givenBack = 0;
        subs.clear();
        savedSlots.clear();
        underWay.clear();
        isDestroying = false;
        hasDied = false;
        died = null;
        for (int i = 0; i < 4; i++) {
            variables[i] = new Place(starts[i]);
        }
        subs.add(new Sub());
        boolean isOver = false;
        try {
            ask(main, NONE);
        } catch (Thrown e) {
            hasDied = true;
            died = e.value;
        } catch (LeaveSub e) {
            // The main node is left as a sub is.
        } catch (Over e) {
            isOver = true;
        }
        giveBack(0);
        for (int i = 0; i < 4; i++) {
            variablesBehind[i] = asNumber(variables[i].get());
        }
        elementsBehind.clear();
        for (Place p : array) {
            elementsBehind.add(asNumber(p.get()));
        }
        if (!isOver) {
            isOver = takeAll();
        }
        ending = isOver ? 'l' : hasDied ? 'd' : 'e';
        return ending;
    }

    boolean takeAll() {
        try {
            for (int i = 0; i < things.size(); i++) {
                Thing t = things.get(i);
                if (t.rank < 0) {
                    destroy(t);
                    t.rank = rank++;
                }
            }
            return false;
        } catch (Over e) {
            return true;
        }
    }

    void destroy(Thing t) {
        if (t.runs > 0 || t.destructor < 0) {
            return;
        }
        t.runs++;
        destroyed++;
        isDestroying = true;
        List<Place> arguments = new ArrayList<>();
        arguments.add(new Place(t));
        try {
            callSub(t.destructor, arguments, NONE);
        } catch (Thrown lost) {
            // What is thrown out of a destructor is lost.
        }
        isDestroying = false;
    }

    List<Object> callSub(int sub, List<Place> arguments, int want) {
        if (subs.size() == 7) {
            throw new Thrown(901);
        }
        Sub s = new Sub();
        s.arguments = arguments;
        s.want = want;
        int mark = loans.size();
        int saved = savedSlots.size();
        int way = underWay.size();
        subs.add(s);
        try {
            if (bodies[sub] < 0) {
                return noPlace(want);
            }
            return fresh(ask(bodies[sub], want));
        } catch (LeaveSub e) {
            return e.given;
        } finally {
            giveBack(mark);
            subs.remove(subs.size() - 1);
            cut(savedSlots, saved);
            cut(underWay, way);
        }
    }

    static void cut(List<?> list, int size) {
        while (list.size() > size) {
            list.remove(list.size() - 1);
        }
    }

    void giveBack(int mark) {
        while (loans.size() > mark) {
            Loan l = loans.remove(loans.size() - 1);
            variables[l.variable].put(l.value);
            variables[l.variable].weak = l.weak;
            if (l.weak && l.value instanceof Thing && ((Thing) l.value).rank >= 0) {
                variables[l.variable].put(null);
            }
            givenBack++;
        }
    }

    List<Object> fresh(List<Object> given) {
        List<Object> result = new ArrayList<>();
        for (Object o : given) {
            result.add(o instanceof Place ? new Place(((Place) o).get()) : o);
        }
        return result;
    }

    /** The results of a node: one value, or places, or nothing at all. */
    List<Object> ask(int node, int want) {
        if (steps == limit) {
            throw new Over();
        }
        steps++;
        int mark = underWay.size();
        List<Object> given = carryOut(nodes.get(node), want);
        if (want == NONE) {
            given = new ArrayList<>();
        }
        cut(underWay, mark);
        underWay.addAll(given);
        lookAfter();
        return given;
    }

    void lookAfter() {
        if (isDestroying) {
            return;
        }
        while (true) {
            Set<Object> held = held();
            Thing loose = null;
            for (Thing t : things) {
                if (loose == null && t.rank < 0 && !held.contains(t)) {
                    loose = t;
                }
            }
            if (loose == null) {
                return;
            }
            destroy(loose);
            if (!held().contains(loose)) {
                loose.rank = rank++;
            }
        }
    }

    Set<Object> held() {
        List<Object> roots = new ArrayList<>(underWay);
        for (Place p : variables) {
            roots.add(p);
        }
        roots.addAll(array);
        roots.addAll(savedSlots);
        for (Sub s : subs) {
            for (Place p : s.slots) {
                roots.add(p);
            }
            roots.addAll(s.arguments);
        }
        for (Loan l : loans) {
            if (!l.weak) {
                roots.add(l.value);
            }
        }
        Set<Object> held = new HashSet<>();
        for (Object o : roots) {
            if (o instanceof Place) {
                Place p = (Place) o;
                if (!p.weak) {
                    held.add(p.value);
                }
            } else {
                held.add(o);
            }
        }
        return held;
    }

    Sub now() {
        return subs.get(subs.size() - 1);
    }

    static List<Object> noPlace(int want) {
        List<Object> given = new ArrayList<>();
        if (want == ONE) {
            given.add(null);
        }
        return given;
    }

    static List<Object> value(Object value, int want) {
        List<Object> given = new ArrayList<>();
        given.add(want == MANY ? new Place(value) : value);
        return given;
    }

    static List<Object> place(Place place, int want) {
        List<Object> given = new ArrayList<>();
        given.add(want == MANY ? place : place.get());
        return given;
    }

    Object one(int node) {
        return ask(node, ONE).get(0);
    }

    List<Place> many(int node) {
        List<Place> places = new ArrayList<>();
        for (Object o : ask(node, MANY)) {
            places.add((Place) o);
        }
        return places;
    }

    List<Object> carryOut(Node n, int want) {
        switch (n.kind) {
            case 'n': return value(n.a, want);
            case '0': return noPlace(want);
            case 'w': return value(subs.size() == 1 ? 0 : now().want, want);
            case 'N': return value(now().arguments.size(), want);
            case 'x': return place(now().slots[n.a], want);
            case 'g': return place(variables[n.a], want);
            case '@':
                return place(n.a < now().arguments.size() ? now().arguments.get(n.a) : new Place(null), want);
            case 'A':
                return want == MANY ? new ArrayList<Object>(array) : value(array.size(), want);
            case 'E': return element(n, want);
            case '+': case '-': case '*': case '<': case 'q': {
                Object left = one(n.a);
                Object right = one(n.b);
                return value(reckon(n.kind, asNumber(left), asNumber(right)), want);
            }
            case '!': return value(isTrue(one(n.a)) ? 0 : 1, want);
            case '?': return ask(isTrue(one(n.a)) ? n.b : n.c, want);
            case ',':
                if (want == MANY) {
                    List<Object> given = new ArrayList<>(ask(n.a, MANY));
                    given.addAll(ask(n.b, MANY));
                    return given;
                }
                ask(n.a, NONE);
                return ask(n.b, want);
            case ';':
                ask(n.a, NONE);
                return ask(n.b, want);
            case ':': return assign(n, want);
            case 'b': case 'v': return block(n, want);
            case 'm': {
                Place fresh = new Place(n.b < 0 ? null : one(n.b));
                now().slots[n.a] = fresh;
                return place(fresh, want);
            }
            case 'L': {
                Object value = n.b < 0 ? null : one(n.b);
                Loan l = new Loan();
                l.variable = n.a;
                l.value = variables[n.a].value;
                l.weak = variables[n.a].weak;
                loans.add(l);
                lent++;
                variables[n.a].put(value);
                return place(variables[n.a], want);
            }
            case 'f': case 'l': return loop(n, want);
            case 'c': return callSub(n.a, n.b < 0 ? new ArrayList<>() : many(n.b), want);
            case 'r': {
                int asked = subs.size() == 1 ? NONE : now().want;
                throw new LeaveSub(n.a < 0 ? noPlace(asked) : fresh(ask(n.a, asked)));
            }
            case 'B':
                if (now().loops == 0) {
                    throw new Thrown(902);
                }
                throw new LeaveLoop();
            case 'd': throw new Thrown(one(n.a));
            case 'o': {
                Thing t = new Thing();
                t.number = things.size();
                t.destructor = n.a;
                things.add(t);
                return value(t, want);
            }
            case 'k': {
                Place p = many(n.a).get(0);
                Object value = p.get();
                p.weak = true;
                return value(value, want);
            }
            case 'p': {
                List<Place> places = many(n.a);
                for (Place p : places) {
                    printed.add(p.get() == null ? -1000000 : asNumber(p.get()));
                }
                return value(places.size(), want);
            }
            default: throw new NoSuchElementException("kind " + n.kind);
        }
    }

    List<Object> element(Node n, int want) {
        int index = asNumber(one(n.a));
        if (index < 0 || index > 29) {
            throw new Thrown(900);
        }
        while (want == MANY && array.size() <= index) {
            array.add(new Place(null));
        }
        return index < array.size() ? place(array.get(index), want) : value(null, want);
    }

    List<Object> assign(Node n, int want) {
        char kind = nodes.get(n.a).kind;
        if (kind != ',' && kind != 'A') {
            Object value = one(n.b);
            Place p = many(n.a).get(0);
            p.put(value);
            return place(p, want);
        }
        List<Object> values = new ArrayList<>();
        for (Place p : many(n.b)) {
            values.add(p.get());
        }
        underWay.addAll(values);
        int count = values.size();
        List<Object> targets = new ArrayList<>();
        fill(n.a, new ArrayList<>(values), targets);
        return want == MANY ? withElements(targets) : value(count, want);
    }

    /** The places, with all elements of the array, as it is by now, where the array stands. */
    List<Object> withElements(List<Object> targets) {
        List<Object> given = new ArrayList<>();
        for (Object o : targets) {
            if (o == array) {
                given.addAll(array);
            } else {
                given.add(o);
            }
        }
        return given;
    }

    void fill(int node, List<Object> values, List<Object> targets) {
        Node n = nodes.get(node);
        if (n.kind == ',') {
            if (steps == limit) {
                throw new Over();
            }
            steps++;
            fill(n.a, values, targets);
            fill(n.b, values, targets);
            lookAfter();
        } else if (n.kind == 'A') {
            ask(node, NONE);
            array.clear();
            while (array.size() < 30 && !values.isEmpty()) {
                array.add(new Place(values.remove(0)));
            }
            targets.add(array);
        } else {
            Place p = many(node).get(0);
            p.put(values.isEmpty() ? null : values.remove(0));
            targets.add(p);
        }
    }

    List<Object> block(Node n, int want) {
        Place[] slots = now().slots.clone();
        int saved = savedSlots.size();
        int mark = loans.size();
        int way = underWay.size();
        for (Place p : slots) {
            savedSlots.add(p);
        }
        Object caught;
        try {
            return fresh(ask(n.a, want));
        } catch (Thrown e) {
            if (n.kind == 'b') {
                throw e;
            }
            caught = e.value;
        } finally {
            giveBack(mark);
            now().slots = slots;
            cut(savedSlots, saved);
        }
        cut(underWay, way);
        variables[3].put(caught);
        return noPlace(want);
    }

    List<Object> loop(Node n, int want) {
        Sub sub = now();
        int way = underWay.size();
        int saved = savedSlots.size();
        List<Place> places = n.kind == 'f' ? many(n.b) : null;
        Place before = sub.slots[n.kind == 'f' ? n.a : 0];
        sub.loops++;
        try {
            if (n.kind == 'f') {
                savedSlots.add(before);
                for (Place p : places) {
                    sub.slots[n.a] = p;
                    ask(n.c, NONE);
                }
            } else {
                while (isTrue(one(n.a))) {
                    cut(underWay, way);
                    ask(n.b, NONE);
                }
            }
        } catch (LeaveLoop e) {
            cut(underWay, way);
        } finally {
            sub.loops--;
            cut(savedSlots, saved);
            if (n.kind == 'f') {
                sub.slots[n.a] = before;
            }
        }
        return noPlace(want);
    }
}
