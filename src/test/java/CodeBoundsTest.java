/** The ends of HEAT, the QUEUE, CODES and UNITS: each method has one sentence of chapter IV. */
final class CodeBoundsTest {
    private static final int NONE = GraftTrees.NONE;

    public static void main(String[] args) {
        heatByActivations();
        heatByWhiles();
        heatOfInlinedStays();
        queueOnce();
        queueOfTheNewest();
        eightCodesOfRoot();
        hundredCodes();
        threeUnits();
        unitsOf150Nodes();
        oneEntryJust();
        notWithinItself();
        heatOfEndedCode();
        greatCounts();
        greatCountsOfInlined();
        goneByLoad();
        Check.end("CodeBoundsTest");
    }

    private static void runs(Trees x, long a, long b) {
        x.start(a, b);
        x.run(20001);
        Check.due("it came to its end", x.state(), 2);
    }

    private static void compileAll(Trees x) {
        int made = x.compile();
        while (made != NONE) {
            made = x.compile();
        }
    }

    /** "As it becomes at least T .. the ROOT comes behind THE QUEUE": by ACTIVATIONS. */
    private static void heatByActivations() {
        int[] thresholds = {1, 2, 7, 100};
        for (int t : thresholds) {
            Trees x = Check.loaded(t, "function main(a,b){while(a>0){f();a=a-1;}}function f(){}");
            runs(x, t - 1, 0);
            Check.due("heat of f", x.root(5, 2), t - 1);
            Check.due("not yet", x.root(5, 5), NONE);
            runs(x, 1, 0);
            Check.due("heat of f", x.root(5, 2), t);
            Check.due("in the queue", x.root(5, 5) >= 0, true);
            Check.due("heat of print", x.root(0, 2), 0);
        }
    }

    /** "and each time but the first that a WHILE's E is come to in one that is in no CODE". */
    private static void heatByWhiles() {
        Trees x = Check.loaded(5, "function main(a,b){while(a>0){a=a-1;}}");
        x.start(3, 0);
        Check.due("as it begins", x.root(4, 2), 1);
        x.run(1);
        Check.due("the first time", x.root(4, 2), 1);
        x.run(2);
        Check.due("again", x.root(4, 2), 2);
        x.run(20001);
        Check.due("three times again", x.root(4, 2), 4);
        Check.due("not yet", x.total(8), 0);
        x.start(0, 0);
        Check.due("at least 5", x.root(4, 2), 5);
        Check.due("in the queue", x.total(8), 1);
        Check.due("compile", x.compile(), 4);
        x.run(20001);
        // In a CODE the ACTIVATION alone counts.
        runs(x, 3, 0);
        Check.due("heat in a code", x.root(4, 2), 6);
    }

    /** "An ACTIVATION of a call .. is INLINED: .. the HEAT stays". */
    private static void heatOfInlinedStays() {
        Trees x = Check.loaded(1, "function main(a,b){f();}function f(){1;}");
        runs(x, 0, 0);
        Check.due("heat of f", x.root(5, 2), 1);
        Check.due("main", x.compile(), 4);
        runs(x, 0, 0);
        Check.due("heat of f stays", x.root(5, 2), 1);
        Check.due("heat of main", x.root(4, 2), 2);
        Check.due("inlined", x.total(15), 1);
        Check.due("calls", x.total(14), 4);
    }

    /** "unless it is in it, has a VALID CODE ..": and HEAT grows on in any case. */
    private static void queueOnce() {
        Trees x = Check.loaded(2, "function main(){}");
        x.start(0, 0);
        Check.due("not yet", x.total(8), 0);
        for (int i = 2; i < 6; i++) {
            x.start(0, 0);
            Check.due("once", x.total(8), 1);
            Check.due("heat", x.root(4, 2), i);
        }
        Check.due("compile", x.compile(), 4);
        Check.due("taken", x.total(8), 0);
        x.start(0, 0);
        Check.due("with a valid code", x.total(8), 0);
        Check.due("heat", x.root(4, 2), 6);
        Check.due("compile", x.compile(), NONE);
        // The order is that in which they came.
        x = Check.loaded(1, "function main(a,b){g();f();g();}function f(){}function g(){}");
        runs(x, 0, 0);
        Check.due("places", x.root(4, 5) + " " + x.root(6, 5) + " " + x.root(5, 5), "0 1 2");
        Check.due("main", x.compile(), 4);
        Check.due("places", x.root(4, 5) + " " + x.root(6, 5) + " " + x.root(5, 5), "-1 0 1");
        Check.due("g", x.compile(), 6);
        Check.due("f", x.compile(), 5);
        Check.due("none", x.compile(), NONE);
    }

    /** "or is not the newest one of its FUNCTION"; "takes ROOTS .., for good, until one is the newest". */
    private static void queueOfTheNewest() {
        Trees x = Check.loaded(1, "function main(a,b){f();if(a==1){define(\"function f(){}\");}g();}"
                + "function f(){}function g(){}");
        runs(x, 1, 0);
        Check.due("main, f and g", x.total(8), 3);
        Check.due("f is not the newest", x.root(5, 6), 0);
        Check.due("the old f is in it yet", x.root(5, 5), 1);
        Check.due("main", x.compile(), 4);
        Check.due("f is passed by", x.compile(), 6);
        Check.due("it is gone", x.root(5, 5), NONE);
        Check.due("it has no code", x.root(5, 4), 0);
        Check.due("empty", x.total(8), 0);
        // An ACTIVATION of an old ROOT heats on, but does not come into the QUEUE.
        x = Check.loaded(3, "function main(a,b){define(\"function main(){}\");while(a>0){a=a-1;}}");
        runs(x, 9, 0);
        Check.due("heat", x.root(4, 2), 10);
        Check.due("queue", x.total(8), 0);
    }

    /** "had eight CODES". */
    private static void eightCodesOfRoot() {
        // Each RUN DEFINES f anew: main's CODE ends, its CALL changes.
        Trees x = Check.loaded(1, "function main(a,b){define(\"function f(){}\");f();}");
        for (int i = 1; i <= 8; i++) {
            runs(x, 0, 0);
            runs(x, 0, 0);
            Check.due("in the queue for code " + i, x.root(4, 5) >= 0, true);
            compileAll(x);
            Check.due("codes it had", x.root(4, 4), i);
            Check.due("valid", x.root(4, 3) >= 0, true);
        }
        for (int i = 0; i < 3; i++) {
            runs(x, 0, 0);
            Check.due("no valid code", x.root(4, 3), NONE);
            Check.due("not in the queue", x.root(4, 5), NONE);
            Check.due("heat grows on", x.root(4, 2), i);
        }
        compileAll(x);
        Check.due("no ninth code", x.root(4, 4), 8);
    }

    /** "(100 CODES at most, then none: the QUEUE stays)". */
    private static void hundredCodes() {
        // Thirteen FUNCTIONS whose CALL of g changes each time that g is DEFINED.
        StringBuilder text = new StringBuilder("function main(a,b){define(\"function g(){}\");");
        for (char c = 'a'; c < 'n'; c++) {
            text.append("f").append(c).append("();");
        }
        text.append('}');
        for (char c = 'a'; c < 'n'; c++) {
            text.append("function f").append(c).append("(){g();}");
        }
        Trees x = Check.loaded(1, text.toString());
        int made = 0;
        for (int i = 0; i < 9 && made < 100; i++) {
            runs(x, 0, 0);
            while (made < 100 && x.compile() != NONE) {
                made++;
                Check.due("codes", x.total(7), made);
            }
        }
        Check.due("codes", x.total(7), 100);
        Check.due("the hundredth", x.code(99, 0) >= 4, true);
        Check.due("its root has it", x.root(x.code(99, 0), 3), 99);
        Check.due("none behind it", x.code(100, 0), NONE);
        int queued = x.total(8);
        Check.due("some wait", queued > 0, true);
        Check.due("none more", x.compile(), NONE);
        Check.due("none more", x.compile(), NONE);
        Check.due("the queue stays", x.total(8), queued);
        Check.due("codes", x.total(7), 100);
    }

    /** "if it lies in less than three UNITS so (0 counts)". */
    private static void threeUnits() {
        Trees x = Check.loaded(1, "function main(a,b){f();}function f(){g();}function g(){h();}function h(){1;}");
        runs(x, 0, 0);
        int[][] units = {{4, 5, 6}, {5, 6, 7}, {6, 7}, {7}};
        for (int c = 0; c < 4; c++) {
            Check.due("compile", x.compile(), 4 + c);
            Check.due("units", x.code(c, 2), units[c].length);
            for (int u = 0; u < units[c].length; u++) {
                Check.due("unit " + u, x.code(c, 10 + u), units[c][u]);
            }
            Check.due("no more", x.code(c, 10 + units[c].length), NONE);
        }
        // h has a FRAME of its own in main's CODE, f and g have not.
        x.start(0, 0);
        x.run(3);
        Check.due("h", x.frame(0, 0), 7);
        Check.due("h is not inlined", x.frame(0, 3), 0);
        Check.due("g is", x.frame(1, 3), 1);
        Check.due("f is", x.frame(2, 3), 1);
        Check.due("main is not", x.frame(3, 3), 0);
        Check.due("code of h", x.frame(0, 1), 3);
        Check.due("unit of h", x.frame(0, 2), 0);
        Check.due("code of g", x.frame(1, 1), 0);
        Check.due("unit of g", x.frame(1, 2), 2);
        Check.due("inlined", x.total(15), 2);
    }

    private static Trees compiled(String text) {
        Trees x = Check.loaded(1, text);
        runs(x, 0, 0);
        x.compile();
        return x;
    }

    /** "all UNITS then have at most 150 NODES together (else that one is not; others may be)". */
    private static void unitsOf150Nodes() {
        // main has 2 + 2 + n NODES, f has 6.
        for (int n = 139; n <= 142; n++) {
            Trees x = compiled("function main(a,b){f();" + Check.times("1;", n) + "}function f(){1;2;3;4;5;6;}");
            boolean fits = 2 + 2 + n + 6 <= 150;
            Check.due("units by " + n, x.code(0, 2), fits ? 2 : 1);
            Check.due("nodes by " + n, x.code(0, 3), 2 + 2 + n + (fits ? 6 : 0));
        }
        // UNIT 0 alone may have more, and then there is no other.
        Trees x = compiled("function main(){f();" + Check.times("1;", 298) + "}function f(){}");
        Check.due("units", x.code(0, 2), 1);
        Check.due("nodes", x.code(0, 3), 300);
        x = compiled("function main(){f();" + Check.times("1;", 148) + "}function f(){}");
        Check.due("units", x.code(0, 2), 2);
        Check.due("nodes", x.code(0, 3), 150);
        x = compiled("function main(){f();" + Check.times("1;", 149) + "}function f(){}");
        Check.due("units", x.code(0, 2), 1);
        // Others may be: f with 5 does not fit the second time, g with 3 does.
        x = compiled("function main(a,b){" + Check.times("f();", 69) + "g();}function f(){1;2;3;4;5;}function g(){1;2;3;}");
        Check.due("units", x.code(0, 2), 3);
        Check.due("nodes", x.code(0, 3), 150);
        Check.due("f", x.code(0, 11), 5);
        Check.due("g", x.code(0, 12), 6);
        // As many UNITS as there can be.
        x = compiled("function main(){" + Check.times("f();", 75) + "}function f(){}");
        Check.due("units", x.code(0, 2), 76);
        Check.due("the last", x.code(0, 85), 5);
        Check.due("no more", x.code(0, 86), NONE);
        runs(x, 0, 0);
        Check.due("all are inlined", x.total(15), 75);
    }

    /** "each CALL .. that has one ENTRY just, a ROOT from 4 on, the newest of its FUNCTION .. may be INLINED". */
    private static void oneEntryJust() {
        Trees x = compiled("function main(a,b){if(a==1){f();}print(1);kind(1);g();}function f(){}function g(){}");
        Check.due("none for f, print, kind", x.code(0, 2), 2);
        Check.due("one for g", x.code(0, 11), 6);
        // Two ENTRIES.
        x = Check.loaded(1, "function main(a,b){h=f;if(a==1){h=g;}h();}function f(){}function g(){}");
        runs(x, 0, 0);
        runs(x, 1, 0);
        x.compile();
        Check.due("none by two entries", x.code(0, 2), 1);
        // An ENTRY that is not the newest: f is DEFINED behind its call.
        x = Check.loaded(1, "function main(a,b){f();define(\"function f(){}\");g();}function f(){}function g(){}");
        runs(x, 0, 0);
        Check.due("the entry of f", x.node(4, 2, 5), 5);
        x.compile();
        Check.due("g alone", x.code(0, 2), 2);
        Check.due("g", x.code(0, 11), 6);
        // One that is OPEN.
        x = Check.loaded(1, "function main(a,b){h=f;if(a==1){h=g;}if(a==2){h=main2;}h();}function f(){}function g(){}"
                + "function main2(){}");
        for (int a = 0; a < 3; a++) {
            runs(x, a, 0);
        }
        x.compile();
        Check.due("none by an open one", x.code(0, 2), 1);
    }

    /** "that is not the ROOT of this UNIT or of one that this one lies in". */
    private static void notWithinItself() {
        Trees x = Check.loaded(1, "function main(a,b){f(a);}function f(n){if(n>0){g(n);}}function g(n){f(n-1);h();}"
                + "function h(){}");
        runs(x, 2, 0);
        Check.due("main", x.compile(), 4);
        Check.due("main, f, g", x.code(0, 2), 3);
        Check.due("f", x.compile(), 5);
        Check.due("f, g, h", x.code(1, 2), 3);
        Check.due("h", x.code(1, 12), 7);
        Check.due("g", x.compile(), 6);
        Check.due("g, f, h", x.code(2, 2), 3);
        Check.due("f", x.code(2, 11), 5);
        Check.due("h", x.code(2, 12), 7);
        x = compiled("function main(a,b){if(a>0){main(a-1,0);}}");
        Check.due("main alone", x.code(0, 2), 1);
        x = Check.loaded(1, "function main(a,b){if(a>0){main(a-1,0);}}");
        runs(x, 1, 0);
        x.compile();
        Check.due("main alone", x.code(0, 2), 1);
        // Beside one another a ROOT may be twice.
        x = compiled("function main(a,b){f();f();}function f(){g();}function g(){}");
        Check.due("main, f, f, g, g", x.code(0, 2), 5);
    }

    /** "The HEAT of its ROOT is 0 then": of the CODE's ROOT alone. */
    private static void heatOfEndedCode() {
        Trees x = Check.loaded(2, "function main(a,b){f(a);}function f(n){n+1;}");
        runs(x, 1, 0);
        runs(x, 1, 0);
        Check.due("main", x.compile(), 4);
        Check.due("main, f", x.code(0, 2), 2);
        Check.due("f", x.compile(), 5);
        Check.due("heat of main", x.root(4, 2), 2);
        Check.due("heat of f", x.root(5, 2), 2);
        runs(x, Long.MAX_VALUE, 0);
        Check.due("heat of main", x.root(4, 2), 0);
        Check.due("heat of f", x.root(5, 2), 0);
        Check.due("not in the queue", x.total(8), 0);
        runs(x, 1, 0);
        Check.due("once is not at least 2", x.total(8), 0);
        runs(x, 1, 0);
        Check.due("both are hot again", x.total(8), 2);
    }

    /** 144 calls of f in one E, which is come to with each STEP. */
    private static String manyCalls() {
        String twelve = "f(f(),f(),f(),f(),f(),f(),f(),f(),f(),f(),f(),f())";
        return "function main(a,b){while(f(" + Check.times(twelve + ",", 10) + twelve + ")==null){}}function f(){}";
    }

    /** "HEAT, calls, INLINED ones, how often a CODE was ENTERED and ENTERED in all are counted up to 1,000,000,000": the
     * 512 calls of an object do not come to that, so the one side alone. */
    private static void greatCounts() {
        Trees x = Check.loaded(100, manyCalls());
        int many = 144 * 20000;
        for (int i = 1; i <= 3; i++) {
            x.start(0, 0);
            x.run(20001);
            Check.due("error", x.error(0), 10);
            Check.due("calls", x.total(14), i * (many + 1));
            Check.due("heat of f", x.root(5, 2), i * many);
            Check.due("heat of main", x.root(4, 2), i * 20000);
        }
        Check.due("f", x.compile(), 5);
        Check.due("main", x.compile(), 4);
        for (int i = 1; i <= 3; i++) {
            x.start(0, 0);
            x.run(20001);
            Check.due("f was entered", x.code(0, 5), i * many);
            Check.due("main was entered", x.code(1, 5), i);
            Check.due("entered in all", x.total(10), i * (many + 1));
            Check.due("heat of f", x.root(5, 2), (3 + i) * many);
            Check.due("heat of main", x.root(4, 2), 3 * 20000 + i);
        }
        Check.due("none is inlined", x.total(15), 0);
    }

    private static void greatCountsOfInlined() {
        String twelve = "f(f(),f(),f(),f(),f(),f(),f(),f(),f(),f(),f(),f())";
        Trees x = Check.loaded(1, "function main(a,b){while(f(" + Check.times(twelve + ",", 4) + twelve + ")==null){}}"
                + "function f(){}");
        x.start(0, 0);
        Check.due("ahead of its calls", x.compile(), 4);
        x.run(20001);
        // The first calls ended that CODE; HEAT is there for another one.
        Check.due("f", x.compile() + x.compile(), 4 + 5);
        int before = x.total(15);
        x.start(0, 0);
        x.run(20001);
        Check.due("error", x.error(0), 10);
        Check.due("inlined", x.total(15) - before, 66 * 20000);
        Check.due("calls", x.total(14), 2 * (66 * 20000 + 1));
    }

    /** "By load() all ROOTS but 0 .. 3, SHAPES, CODES, the QUEUE are gone, and all counts of total()." */
    private static void goneByLoad() {
        String text = "function main(a,b){o=new();o.p=a;f(o);if(a==1){o.p=null;}f(o);}function f(o){1;o.p;}";
        Trees x = Check.loaded(1, text);
        runs(x, 0, 0);
        compileAll(x);
        runs(x, 0, 0);
        runs(x, 1, 0);
        for (int what : new int[] {5, 6, 7, 9, 10, 11, 13, 14, 15}) {
            Check.due("total " + what + " is there", x.total(what) > 0, true);
        }
        Check.due("load", x.load(Check.feed(x, text)), 6);
        int[] wanted = {6, 1, 0, 0, 0, 0, 0, 0, 0, 0, 0};
        for (int what = 5; what < 16; what++) {
            Check.due("total " + what, x.total(what), wanted[what - 5]);
        }
        Check.due("code", x.code(0, 0), NONE);
        Check.due("heat", x.root(4, 2), 0);
        Check.due("codes it had", x.root(4, 4), 0);
        Check.due("changes", x.root(4, 7), 0);
        Check.due("main is newest", x.root(4, 6), 1);
    }
}
