import java.io.IOException;
import java.nio.charset.StandardCharsets;
import java.nio.file.Files;
import java.nio.file.Path;
import java.util.NoSuchElementException;

/** What the tests share: counting wrong answers, and programs written as texts. */
final class Checks {
    private static final Path DOCUMENT = Path.of("../shared/DOC.md");
    private static int wrong = 0;
    private static String sentence = "";
    private static String document;

    interface Call {
        Object answer();
    }

    static void due(String what, Object got, Object want) {
        if (!want.equals(got)) {
            wrong++;
            System.out.println((sentence.isEmpty() ? "" : "[" + sentence + "] ")
                + what + " answered " + got + ", due is " + want);
        }
    }

    /** Tells which sentence of the document is tested from here on; it has to stand there as it is quoted. */
    static void sentence(String quoted) {
        sentence = "";
        due("whether the document says: " + quoted, document().isEmpty() || document().contains(quoted), true);
        sentence = quoted;
    }

    private static String document() {
        if (document == null) {
            try {
                document = Files.exists(DOCUMENT) ? Files.readString(DOCUMENT, StandardCharsets.UTF_8) : "";
            } catch (IOException e) {
                document = "";
            }
        }
        return document;
    }

    /** The answer as a text, or the plain name of the exception that the document may want. */
    static String answer(Call call) {
        try {
            return String.valueOf(call.answer());
        } catch (NoSuchElementException | IllegalStateException | IllegalArgumentException
            | IndexOutOfBoundsException | ArithmeticException e) {
            return e.getClass().getSimpleName();
        }
    }

    static void dueCall(String what, Call call, Object want) {
        due(what, answer(call), String.valueOf(want));
    }

    static void end(String name) {
        System.out.println(name + ": " + (wrong == 0 ? "all answers are as due" : wrong + " answers are not as due"));
        if (wrong != 0) {
            System.exit(1);
        }
    }

    /** Adds the nodes of a text such as (p (+ (n 1) (g 0))); a number stands for itself, a # for a node. */
    static int add(Contextwright x, String text) {
        Reader reader = new Reader(x, text);
        int node = reader.node();
        if (reader.at != text.length()) {
            throw new IllegalArgumentException("text behind the node: " + text);
        }
        return node;
    }

    /** A program with a main node and the bodies of the subs from 0 on, where "" is none. */
    static Contextwright program(String main, String... subs) {
        Contextwright x = new Contextwright();
        for (int i = 0; i < subs.length; i++) {
            if (!subs[i].isEmpty()) {
                x.setSub(i, add(x, subs[i]));
            }
        }
        x.setMain(add(x, main));
        return x;
    }

    /** The program of these texts behind a plain run of at most so many steps. */
    static Contextwright ran(int steps, String main, String... subs) {
        Contextwright x = program(main, subs);
        x.run(false, steps);
        return x;
    }

    /** How a program ends and what it prints, plain and thinned. */
    static void does(String want, String main, String... subs) {
        Contextwright x = program(main, subs);
        due(main, x.run(false, 2000) + " " + prints(x), want);
        due("thinned " + main, x.run(true, 2000) + " " + prints(x), want);
        due("isConsistent of " + main, x.isConsistent(), true);
    }

    /** That a value is thrown out of the main node, and which. */
    static void dies(int want, String main, String... subs) {
        Contextwright x = ran(2000, main, subs);
        due(main, x.ending() + " " + answer(() -> x.died()), "d " + want);
    }

    static String prints(Contextwright x) {
        StringBuilder text = new StringBuilder();
        int count = x.printed();
        for (int i = 0; i < count; i++) {
            int value = x.printedAt(i);
            text.append(i == 0 ? "" : " ").append(value == -1000000 ? "-" : "" + value);
        }
        return text.toString();
    }

    static String variables(Contextwright x) {
        return x.variable(0) + " " + x.variable(1) + " " + x.variable(2) + " " + x.variable(3);
    }

    static String elements(Contextwright x) {
        StringBuilder text = new StringBuilder();
        int count = x.elements();
        for (int i = 0; i < count; i++) {
            text.append(i == 0 ? "" : " ").append(x.element(i));
        }
        return text.toString();
    }

    static String ranks(Contextwright x) {
        StringBuilder text = new StringBuilder();
        int count = x.made();
        for (int i = 0; i < count; i++) {
            text.append(i == 0 ? "" : " ").append(x.gone(i));
        }
        return text.toString();
    }

    private static final class Reader {
        private final Contextwright x;
        private final String text;
        private int at;

        Reader(Contextwright x, String text) {
            this.x = x;
            this.text = text;
        }

        private void blanks() {
            while (at < text.length() && text.charAt(at) == ' ') {
                at++;
            }
        }

        int node() {
            blanks();
            if (text.charAt(at) != '(') {
                return number();
            }
            at++;
            char kind = text.charAt(at);
            at++;
            int[] numbers = new int[3];
            for (int i = 0; ; i++) {
                blanks();
                if (text.charAt(at) == ')') {
                    at++;
                    return x.addNode(kind, numbers[0], numbers[1], numbers[2]);
                }
                numbers[i] = node();
            }
        }

        private int number() {
            int from = at;
            while (text.charAt(at) != ' ' && text.charAt(at) != ')') {
                at++;
            }
            return Integer.parseInt(text.substring(from, at));
        }
    }
}
