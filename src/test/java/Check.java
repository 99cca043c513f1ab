import java.nio.charset.StandardCharsets;

/** What the tests share: they tell every answer that is not due, and end with exit code 1 if there was one. */
final class Check {
    private static int asked = 0;
    private static int wrong = 0;

    private Check() {
    }

    static void due(String call, long got, long want) {
        asked++;
        if (got != want) {
            wrong++;
            System.out.println(call + " answered " + got + ", due is " + want);
        }
    }

    static void due(String call, boolean got, boolean want) {
        due(call, got ? 1 : 0, want ? 1 : 0);
    }

    static void due(String call, String got, String want) {
        asked++;
        if (!got.equals(want)) {
            wrong++;
            System.out.println(call + " answered <" + got + ">, due is <" + want + ">");
        }
    }

    static void end(String test) {
        System.out.println(test + ": " + asked + " answers, " + wrong + " of them wrong");
        System.exit(wrong == 0 ? 0 : 1);
    }

    /** Puts the text on the tape, with blanks up to the next twenty bytes; answers how many bytes it has itself. */
    static int feed(Trees x, String text) {
        byte[] bytes = text.getBytes(StandardCharsets.ISO_8859_1);
        for (int i = 0; i < bytes.length; i += 20) {
            x.feed(four(bytes, i), four(bytes, i + 4), four(bytes, i + 8), four(bytes, i + 12), four(bytes, i + 16));
        }
        return bytes.length;
    }

    private static int four(byte[] bytes, int from) {
        int sum = 0;
        for (int i = from; i < from + 4; i++) {
            sum = sum << 8 | (i < bytes.length ? bytes[i] & 255 : 32);
        }
        return sum;
    }

    static Trees loaded(int threshold, String text) {
        Trees x = new Trees(threshold);
        int bytes = feed(x, text);
        if (x.load(bytes) == GraftTrees.NONE) {
            wrong++;
            System.out.println("fault " + x.fault(0) + " at " + x.fault(1) + " of " + text);
        }
        return x;
    }

    /** A new object whose program has run to its end. */
    static Trees ran(String text) {
        Trees x = loaded(100, text);
        x.start(3, 4);
        x.run(20001);
        return x;
    }

    static String result(Trees x) {
        StringBuilder letters = new StringBuilder();
        int letter = x.result(0);
        while (letter != GraftTrees.NONE) {
            letters.append((char) letter);
            letter = x.result(letters.length());
        }
        return letters.toString();
    }

    static String out(Trees x) {
        StringBuilder letters = new StringBuilder();
        int letter = x.out(0);
        while (letter != GraftTrees.NONE) {
            letters.append((char) letter);
            letter = x.out(letters.length());
        }
        return letters.toString();
    }

    /** The result, or E, the ERROR's number, @ and its NODE. */
    static String outcome(Trees x) {
        switch (x.state()) {
            case 2: return result(x);
            case 3: return "E" + x.error(0) + "@" + x.error(2);
            default: return "state " + x.state();
        }
    }

    /** A TEXT with its FAULT's number and place; number 0: it has none. */
    static void faulty(String text, int number, int place) {
        Trees x = new Trees(1);
        int bytes = feed(x, text);
        int roots = x.load(bytes);
        String shown = text.length() > 300 ? ".." + text.substring(text.length() - 80) : text;
        due("load of " + shown, roots == GraftTrees.NONE, number != 0);
        due("fault of " + shown, x.fault(0), number);
        due("place of " + shown, x.fault(1), number == 0 ? GraftTrees.NONE : place);
    }

    static void good(String text) {
        faulty(text, 0, GraftTrees.NONE);
    }

    /** A FAULT in main's body, its place counted from there. */
    static void faultyBody(String body, int number, int place) {
        String head = "function main(a,b){";
        faulty(head + body + "}", number, head.length() + place);
    }

    static void goodBody(String body) {
        faultyBody(body, 0, GraftTrees.NONE);
    }

    static String times(String part, int times) {
        return part.repeat(times);
    }

    /** main's body, worked out to its end. */
    static void says(String body, String want) {
        due(body, outcome(ran("function main(a,b){" + body + "}")), want);
    }
}
