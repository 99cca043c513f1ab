/** What ends a CODE and what does not, and who leaves it: each method has one part of a sentence of chapter IV. */
final class CodeEndsTest {
    private static final int NONE = GraftTrees.NONE;

    public static void main(String[] args) {
        definedAgain();
        openCallsRestOnNothing();
        shapesOfGets();
        shapesAheadOfPuts();
        shapesBehindPuts();
        shapesOfTheFirstNode();
        openGetsRestOnNothing();
        changesOfUnits();
        ownFrameAlone();
        allOfOneFrame();
        callThatChanges();
        paramOfInlined();
        exitOfEndedCode();
        fallAtWhile();
        fallsAreGoneByLoad();
        codesOfEarlierTexts();
        Check.end("CodeEndsTest");
    }

    private static void runs(Trees x, long a, long b) {
        x.start(a, b);
        x.run(20001);
        Check.due("it came to its end", x.state(), 2);
    }

    /** "the FUNCTION of one of these, or of a ROOT that a CALL of them has as an ENTRY, is DEFINED again". */
    private static void definedAgain() {
        String text = "function main(a,b){print(1);f=g;if(b==0){f=h;}f();k();if(b==1){t=\"function %(){}\";}"
                + "else{t=\"function q(){}\";}if(a==1){define(t);}2;3;}function g(){}function h(){}"
                + "function k(){n();}function n(){kind(1);}function z(){}";
        String[] names = {"main", "print", "g", "h", "k", "n", "kind", "define", "q", "z", "new", "other"};
        for (int i = 0; i < names.length; i++) {
            boolean ends = i < 8;
            Trees x = Check.loaded(1, text.replace("%", names[i]));
            runs(x, 0, 0);
            runs(x, 0, 1);
            runs(x, 1, 0);
            Check.due("main", x.compile(), 4);
            Check.due("main, k, n", x.code(0, 2), 3);
            x.start(1, 1);
            // print, f, if, f(), k(), n(), kind(), if, t, if
            x.run(10);
            Check.due("valid yet, " + names[i], x.code(0, 1), 1);
            Check.due("in it, " + names[i], x.frame(0, 1), 0);
            int roots = x.total(5);
            x.run(1);
            Check.due("defined " + names[i], x.total(5), roots + 1);
            Check.due("valid behind define of " + names[i], x.code(0, 1), ends ? 0 : 1);
            Check.due("falls by define of " + names[i], x.code(0, 7), ends ? 1 : 0);
            Check.due("code of main by define of " + names[i], x.frame(0, 1), ends ? NONE : 0);
            Check.due("heat by define of " + names[i], x.root(4, 2) == 0, ends);
            Check.due("valid code of main by " + names[i], x.root(4, 3), ends ? NONE : 0);
            Check.due("no exits", x.total(11), 0);
        }
    }

    /** A CALL that is OPEN has no ENTRIES: what it had as one may be DEFINED again. */
    private static void openCallsRestOnNothing() {
        Trees x = Check.loaded(1, "function main(a,b){if(a==9){define(\"function g(){}\");}f(b);}"
                + "function f(b){c=g;if(b==1){c=h;}if(b==2){c=k;}c();}function g(){}function h(){}function k(){}");
        for (int b = 0; b < 3; b++) {
            runs(x, 0, b);
        }
        Check.due("main", x.compile(), 4);
        Check.due("f", x.compile(), 5);
        runs(x, 9, 0);
        Check.due("g is another one", x.root(6, 6), 0);
        Check.due("f's code stays", x.code(1, 1), 1);
    }

    /** The i-th of three ENTRIES of f's NODE has the SHAPE that main makes OBSOLETE; f's CODE ends by that. */
    private static void shapesOfEntries(String ahead, String node, String outdate, boolean ends) {
        for (int i = 0; i < 3; i++) {
            Trees x = Check.loaded(1, "function main(a,b){o=new();if(b>0){o.x=1;}if(b>1){o.y=1;}" + ahead + "f(o);"
                    + "if(a==1){" + outdate + "}}function f(o){" + node + "}");
            for (int b = 0; b < 3; b++) {
                runs(x, 0, b);
            }
            Check.due("entries", x.node(5, 1, 4), 3);
            Check.due("main", x.compile(), 4);
            Check.due("f", x.compile(), 5);
            int shape = x.node(5, 1, 5 + i);
            int behind = x.node(5, 1, 8 + i);
            runs(x, 1, i);
            Check.due("a shape of entry " + i + " is obsolete", x.shape(shape, 2) != NONE || x.shape(behind, 2) > 0, ends);
            Check.due("f's code, entry " + i + " by " + outdate, x.code(1, 1), ends ? 0 : 1);
            Check.due("heat of f", x.root(5, 2) == 0, ends);
            Check.due("valid code of f", x.root(5, 3), ends ? NONE : 1);
        }
    }

    /** "a SHAPE of an ENTRY of one of their NODES becomes OBSOLETE": of a GET. */
    private static void shapesOfGets() {
        shapesOfEntries("o.p=1;", "o.p;", "o.p=null;", true);
        shapesOfEntries("o.p=1;", "o.p;", "d=new();d.z=1;d.z=null;", false);
    }

    /** Of a PUT, the SHAPE ahead: that of o without p. */
    private static void shapesAheadOfPuts() {
        Trees x = Check.loaded(1, "function main(a,b){o=new();if(b>0){o.x=1;}if(b>1){o.y=1;}f(o);"
                + "d=new();d.x=1;if(a>1){d.y=1;}if(a>0){d.x=null;}}function f(o){o.p=1;}");
        for (int b = 0; b < 3; b++) {
            runs(x, 0, b);
        }
        Check.due("main", x.compile(), 4);
        Check.due("f", x.compile(), 5);
        runs(x, 1, 0);
        Check.due("ahead of the second entry", x.shape(x.node(5, 1, 6), 2) != NONE, true);
        Check.due("behind it", x.shape(x.node(5, 1, 9), 2), NONE);
        Check.due("f's code", x.code(1, 1), 0);
        x = Check.loaded(1, "function main(a,b){o=new();if(b>0){o.x=1;}if(b>1){o.y=1;}f(o);"
                + "if(a>0){d=new();d.x=1;d.y=1;d.y=null;}}function f(o){o.p=1;}");
        for (int b = 0; b < 3; b++) {
            runs(x, 0, b);
        }
        x.compile();
        x.compile();
        runs(x, 1, 0);
        Check.due("ahead of the third entry", x.shape(x.node(5, 1, 7), 2) != NONE, true);
        Check.due("f's code", x.code(1, 1), 0);
    }

    /** Of a PUT, the SHAPE behind: that of o with p. */
    private static void shapesBehindPuts() {
        shapesOfEntries("", "o.p=1;", "o.p=null;", true);
        shapesOfEntries("", "o.p=1;", "d=new();d.z=1;d.z=null;", false);
    }

    private static void shapesOfTheFirstNode() {
        Trees x = Check.loaded(1, "function main(a,b){f();if(a==1){d=new();d.p=1;d.p=null;}}function f(){new().p=1;}");
        runs(x, 0, 0);
        Check.due("entries of node 0", x.node(5, 0, 4), 1);
        Check.due("main", x.compile(), 4);
        Check.due("f", x.compile(), 5);
        runs(x, 1, 0);
        Check.due("f's code", x.code(1, 1), 0);
    }

    /** A GET that is OPEN has no ENTRIES: what it had as one may become OBSOLETE. */
    private static void openGetsRestOnNothing() {
        for (String node : new String[] {"o.p;", "o.p=2;"}) {
            Trees x = Check.loaded(1, "function main(a,b){o=new();if(b>0){o.x=1;}if(b>1){o.y=1;}if(b>2){o.z=1;}o.p=1;f(o);"
                    + "if(a==1){o.p=null;}}function f(o){" + node + "}");
            for (int b = 0; b < 4; b++) {
                runs(x, 0, b);
            }
            Check.due("open", x.node(5, 1, 2), 1);
            Check.due("main", x.compile(), 4);
            Check.due("f", x.compile(), 5);
            for (int b = 0; b < 4; b++) {
                runs(x, 1, b);
                Check.due("f's code stays", x.code(1, 1), 1);
            }
        }
    }

    /** "a NODE of one of its UNITS CHANGES": the last NODE of the last UNIT. */
    private static void changesOfUnits() {
        Trees x = Check.loaded(1, "function main(a,b){f(a,b);}function f(a,b){g(a,b);}function g(a,b){a+b;}"
                + "function h(a,b){a-b;}");
        runs(x, 1, 2);
        Check.due("main", x.compile(), 4);
        Check.due("units", x.code(0, 2), 3);
        runs(x, 3, 4);
        Check.due("valid", x.code(0, 1), 1);
        runs(x, 1, Long.MAX_VALUE);
        Check.due("valid no more", x.code(0, 1), 0);
        Check.due("exits", x.code(0, 6), 1);
    }

    /** "LEAVING: all ACTIVATIONS of a FRAME": the FRAME of its caller stays where it is. */
    private static void ownFrameAlone() {
        // The CALL in main has two ENTRIES: f and g are not INLINED.
        Trees x = Check.loaded(1, "function main(a,b){h=f;if(b==1){h=g;}h(a);2;}function f(n){n+1;3;}function g(n){}");
        runs(x, 1, 0);
        runs(x, 1, 1);
        Check.due("main", x.compile(), 4);
        Check.due("f", x.compile(), 5);
        x.start(Long.MAX_VALUE, 0);
        x.run(3);
        Check.due("f in its code", x.frame(0, 1), 1);
        Check.due("main in its code", x.frame(1, 1), 0);
        x.run(1);
        Check.due("f has left", x.frame(0, 1), NONE);
        Check.due("unit of f", x.frame(0, 2), NONE);
        Check.due("main has not", x.frame(1, 1), 0);
        Check.due("unit of main", x.frame(1, 2), 0);
        Check.due("exits of f's", x.code(1, 6), 1);
        Check.due("exits of main's", x.code(0, 6), 0);
        Check.due("main's code is valid", x.code(0, 1), 1);
        Check.due("f's is not", x.code(1, 1), 0);
        x.run(9);
        Check.due("end", x.state(), 2);
        Check.due("no falls", x.total(12), 0);
    }

    /** "are in no CODE and INLINED no more; each has a FRAME of its own". */
    private static void allOfOneFrame() {
        Trees x = Check.loaded(1, "function main(a,b){f(a);2;}function f(n){g(n);3;}function g(n){n+1;4;}");
        runs(x, 1, 0);
        Check.due("main", x.compile(), 4);
        x.start(Long.MAX_VALUE, 0);
        x.run(2);
        for (int k = 0; k < 3; k++) {
            Check.due("code of " + k, x.frame(k, 1), 0);
            Check.due("unit of " + k, x.frame(k, 2), 2 - k);
            Check.due("inlined, " + k, x.frame(k, 3), k < 2 ? 1 : 0);
        }
        x.run(1);
        for (int k = 0; k < 3; k++) {
            Check.due("code of " + k, x.frame(k, 1), NONE);
            Check.due("unit of " + k, x.frame(k, 2), NONE);
            Check.due("inlined, " + k, x.frame(k, 3), 0);
        }
        Check.due("one exit", x.total(11), 1);
        Check.due("no falls", x.total(12), 0);
        x.run(9);
        Check.due("one exit in all", x.total(11), 1);
        Check.due("inlined ones", x.total(15), 2);
    }

    private static final String PICK = "function pick(b){if(b==1){return %;}return 5;}function pick2(b){return 6;}";

    /** "(All this ahead of the call.)": a CALL that CHANGES leaves its FRAME, and what it calls is not INLINED. */
    private static void callThatChanges() {
        // The CALL of p has two ENTRIES, so that what pick meets is no matter to main's CODE.
        Trees x = Check.loaded(1, "function main(a,b){p=pick;if(a==1){p=pick2;}h=p(b);h();2;}"
                + PICK.replace("%", "g").replace("5", "f").replace("6", "f") + "function f(){3;}function g(){4;}");
        runs(x, 0, 0);
        runs(x, 1, 0);
        Check.due("main", x.compile(), 4);
        Check.due("main, f", x.code(0, 2), 2);
        x.start(0, 1);
        x.run(5);
        Check.due("main in its code", x.frame(0, 1), 0);
        Check.due("no exits yet", x.total(11), 0);
        x.run(1);
        Check.due("g", x.frame(0, 0), 8);
        Check.due("not inlined", x.frame(0, 3), 0);
        Check.due("main has left", x.frame(1, 1), NONE);
        Check.due("an exit", x.code(0, 6), 1);
        Check.due("heat of g", x.root(8, 2), 1);
        Check.due("inlined ones", x.total(15), 0);
    }

    /** "the HEAT stays (and no PARAM was looked at yet)"; "(Also by a PARAM.)" */
    private static void paramOfInlined() {
        Trees x = Check.loaded(1, "function main(a,b){p=pick;if(a==1){p=pick2;}f(p(b));2;}" + PICK.replace("%", "true")
                + "function f(v){3;}");
        runs(x, 0, 0);
        runs(x, 1, 0);
        Check.due("main", x.compile(), 4);
        Check.due("main, f", x.code(0, 2), 2);
        x.start(0, 1);
        x.run(4);
        Check.due("main in its code", x.frame(1, 1), 0);
        Check.due("no exits yet", x.total(11), 0);
        x.run(1);
        Check.due("f", x.frame(0, 0), 7);
        Check.due("it was inlined", x.total(15), 1);
        Check.due("and is so no more", x.frame(0, 3), 0);
        Check.due("in no code", x.frame(0, 1), NONE);
        Check.due("main neither", x.frame(1, 1), NONE);
        Check.due("an exit", x.code(0, 6), 1);
        Check.due("heat of f stays", x.root(7, 2), 2);
        Check.due("sort", x.root(7, 10), 3);
        x.run(9);
        Check.due("end", x.state(), 2);
        Check.due("no falls", x.total(12), 0);
    }

    /** "A NODE that CHANGES in an ACTIVATION in a CODE: .. an EXIT": also when that CODE has ended and none fell yet. */
    private static void exitOfEndedCode() {
        Trees x = Check.loaded(1, "function main(a,b){x=9223372036854775808;o=new();o.p0=1;(o[\"p\"+b]=x)==(a+1);2;}");
        runs(x, 1, 1);
        Check.due("main", x.compile(), 4);
        x.start(Long.MAX_VALUE, 0);
        x.run(3);
        Check.due("valid", x.code(0, 1), 1);
        // The PUT ends the CODE, then the + becomes BIG in the same STATEMENT.
        x.run(1);
        Check.due("valid no more", x.code(0, 1), 0);
        Check.due("an exit", x.code(0, 6), 1);
        Check.due("main has left", x.frame(0, 1), NONE);
        x.run(1);
        Check.due("end", x.state(), 2);
        Check.due("no falls", x.total(12), 0);
        Check.due("exits", x.total(11), 1);
    }

    /** "or a WHILE's E is come to, in an ACTIVATION in a CODE that is not VALID any more: .. a FALL": then HEAT, QUEUE. */
    private static void fallAtWhile() {
        Trees x = Check.loaded(1, "function main(a,b){x=9223372036854775808;i=0;"
                + "while(i<2){i=i+1;o=new();o.p0=1;o[\"p\"+b]=x;}return i;}");
        runs(x, 0, 1);
        Check.due("main", x.compile(), 4);
        x.start(0, 0);
        x.run(6);
        Check.due("valid", x.code(0, 1), 1);
        // The second PUT makes the SHAPE of the first one's ENTRY OBSOLETE.
        x.run(1);
        Check.due("valid no more", x.code(0, 1), 0);
        Check.due("in it yet", x.frame(0, 1), 0);
        Check.due("no fall yet", x.total(12), 0);
        Check.due("heat", x.root(4, 2), 0);
        Check.due("queue", x.total(8), 0);
        x.run(1);
        Check.due("a fall", x.total(12), 1);
        Check.due("of its code", x.code(0, 7), 1);
        Check.due("in no code", x.frame(0, 1), NONE);
        Check.due("heat, behind the fall", x.root(4, 2), 1);
        Check.due("queue", x.total(8), 1);
        Check.due("no exits", x.total(11), 0);
        Check.due("compile", x.compile(), 4);
        x.run(20001);
        Check.due("outcome", Check.outcome(x), "2");
    }

    private static void fallsAreGoneByLoad() {
        String text = "function main(a,b){f();if(a==1){define(\"function f(){}\");}2;}function f(){}";
        Trees x = Check.loaded(1, text);
        runs(x, 1, 0);
        runs(x, 0, 0);
        Check.due("main", x.compile(), 4);
        runs(x, 1, 0);
        Check.due("falls", x.total(12), 1);
        x.load(Check.feed(x, text));
        Check.due("falls are gone", x.total(12), 0);
        runs(x, 1, 0);
        runs(x, 0, 0);
        Check.due("main", x.compile(), 4);
        int[] wanted = {4, 1, 2, x.root(4, 0)};
        for (int what = 0; what < 4; what++) {
            Check.due("code what " + what, x.code(0, what), wanted[what]);
        }
        for (int what = 5; what < 8; what++) {
            Check.due("code what " + what, x.code(0, what), 0);
        }
    }

    /** A CODE has nothing of the one that had its number before load(). */
    private static void codesOfEarlierTexts() {
        Trees x = Check.loaded(1, "function main(a,b){f(a);}function f(n){n+1;}");
        runs(x, 1, 0);
        x.compile();
        x.compile();
        runs(x, 1, 0);
        runs(x, Long.MAX_VALUE, 0);
        x.load(Check.feed(x, "function main(a,b){if(a==1){f(b);}2;}function f(n){n+1;}"));
        runs(x, 0, 0);
        Check.due("main", x.compile(), 4);
        int[] wanted = {4, 1, 1, 10, 6, 0, 0, 0, NONE, NONE, 4, NONE};
        for (int what = 0; what < wanted.length; what++) {
            Check.due("code what " + what, x.code(0, what), wanted[what]);
        }
        runs(x, 0, 0);
        Check.due("entered", x.code(0, 5), 1);
        runs(x, 1, 0);
        Check.due("exits", x.code(0, 6), 1);
        // f was a UNIT of the earlier CODE 0; of this one it is none.
        x = Check.loaded(1, "function main(a,b){f(a);}function f(n){n+1;}");
        runs(x, 1, 0);
        x.compile();
        x.load(Check.feed(x, "function main(a,b){h=f;if(b==1){h=g;}h(a);}function f(n){n+1;}function g(n){}"));
        runs(x, 1, 0);
        runs(x, 1, 1);
        Check.due("main", x.compile(), 4);
        Check.due("units", x.code(0, 2), 1);
        runs(x, Long.MAX_VALUE, 0);
        Check.due("f has changed", x.node(5, 1, 2), 2);
        Check.due("main's code stays", x.code(0, 1), 1);
    }
}
