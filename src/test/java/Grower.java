import java.util.Random;

/** Grows programs whose parts fit one another, so that odd things happen within odd things more often. */
final class Grower {
    interface Adder {
        int add(char kind, int a, int b, int c);
    }

    private static final int MOST = 47;
    private final Random random;
    private final Adder adder;
    private int count;

    Grower(Random random, Adder adder) {
        this.random = random;
        this.adder = adder;
    }

    private boolean isFull(int depth) {
        return depth <= 0 || count >= MOST - 12;
    }

    /** A node, or one that is there already if there is no room for more. */
    private int node(char kind, int a, int b, int c) {
        if (count >= MOST) {
            return 0;
        }
        count++;
        return adder.add(kind, a, b, c);
    }

    int number(int bound) {
        return node('n', random.nextInt(bound), 0, 0);
    }

    int destructor() {
        int told = node('p', node('@', 0, 0, 0), 0, 0);
        return random.nextInt(3) == 0 ? node(';', told, statement(2), 0) : told;
    }

    int statement(int depth) {
        if (isFull(depth)) {
            return random.nextBoolean() ? node('p', number(9), 0, 0) : node(':', place(0), node('o', thing(), 0, 0), 0);
        }
        int d = depth - 1;
        switch (random.nextInt(19)) {
            case 0: case 1: return node('p', many(d), 0, 0);
            case 2: case 3: return node(':', place(d), one(d), 0);
            case 4: case 5: return node(':', target(d), many(d), 0);
            case 6: case 7: case 8: return node(';', statement(d), statement(d), 0);
            case 9: return node('m', random.nextInt(2), one(d), 0);
            case 10: return node('L', random.nextInt(2), one(d), 0);
            case 11: return node('f', random.nextInt(2), many(d), statement(d));
            case 12: return repetition(d);
            case 13: return node('b', statement(d), 0, 0);
            case 14: return node('v', statement(d), 0, 0);
            case 15: return node('c', random.nextInt(4), many(d), 0);
            case 16: return wayOut(d);
            case 17: return node('k', place(d), 0, 0);
            default: return node('?', one(d), statement(d), statement(d));
        }
    }

    private int repetition(int depth) {
        if (random.nextBoolean()) {
            return node('l', one(depth), node(';', statement(depth), node('B', 0, 0, 0), 0), 0);
        }
        int variable = node('g', random.nextInt(2), 0, 0);
        int more = node(':', variable, node('+', variable, number(3), 0), 0);
        return node('l', node('<', variable, number(9), 0), node(';', more, statement(depth), 0), 0);
    }

    private int wayOut(int depth) {
        switch (random.nextInt(4)) {
            case 0: return node('B', 0, 0, 0);
            case 1: return node('d', one(depth), 0, 0);
            default: return node('r', random.nextInt(4) == 0 ? -1 : many(depth), 0, 0);
        }
    }

    private int thing() {
        return random.nextInt(6) == 0 ? -1 : random.nextInt(3);
    }

    private int one(int depth) {
        if (isFull(depth)) {
            return random.nextBoolean() ? number(7) : node('x', random.nextInt(2), 0, 0);
        }
        int d = depth - 1;
        switch (random.nextInt(13)) {
            case 0: return number(7);
            case 1: case 2: return node('o', thing(), 0, 0);
            case 3: case 4: return place(d);
            case 5: return node(';', statement(d), one(d), 0);
            case 6: return node("+-*<q".charAt(random.nextInt(5)), one(d), one(d), 0);
            case 7: return node("wNA0".charAt(random.nextInt(4)), 0, 0, 0);
            case 8: return node('c', random.nextInt(4), random.nextInt(3) == 0 ? -1 : many(d), 0);
            case 9: return node(random.nextBoolean() ? 'b' : 'v', one(d), 0, 0);
            case 10: return node('!', one(d), 0, 0);
            case 11: return node(',', statement(d), one(d), 0);
            default: return statement(d);
        }
    }

    private int many(int depth) {
        if (isFull(depth)) {
            return node("A0w".charAt(random.nextInt(3)), 0, 0, 0);
        }
        int d = depth - 1;
        switch (random.nextInt(10)) {
            case 0: case 1: case 2: return node(',', many(d), many(d), 0);
            case 3: return node('A', 0, 0, 0);
            case 4: return node(':', target(d), many(d), 0);
            case 5: return node(random.nextBoolean() ? 'b' : 'v', many(d), 0, 0);
            case 6: return node(random.nextBoolean() ? 'm' : 'L', random.nextInt(2), one(d), 0);
            case 7: return node(';', statement(d), many(d), 0);
            case 8: return node('?', one(d), many(d), many(d));
            default: return one(d);
        }
    }

    private int place(int depth) {
        switch (random.nextInt(isFull(depth) ? 3 : 5)) {
            case 0: return node('x', random.nextInt(2), 0, 0);
            case 1: return node('g', random.nextInt(2), 0, 0);
            case 2: return node('@', random.nextInt(2), 0, 0);
            default: return node('E', index(depth - 1), 0, 0);
        }
    }

    private int index(int depth) {
        int number = number(random.nextInt(9) == 0 ? 40 : 3);
        return isFull(depth) || random.nextBoolean() ? number : node(';', statement(depth), number, 0);
    }

    private int target(int depth) {
        if (isFull(depth) || random.nextInt(4) == 0) {
            return node('A', 0, 0, 0);
        }
        return random.nextBoolean() ? place(depth) : node(',', target(depth - 1), target(depth - 1), 0);
    }
}
