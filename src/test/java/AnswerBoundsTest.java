/** What there is to ask, and what there is not: each method has the sentences of one of the promises 11 to 17. */
final class AnswerBoundsTest {
    private static final int NONE = GraftTrees.NONE;
    private static final int LEAST = Integer.MIN_VALUE;
    private static final int MOST = Integer.MAX_VALUE;

    public static void main(String[] args) {
        compiles();
        roots();
        rootsThatAreNot();
        nodes();
        nodesThatAreNot();
        entriesThatAreNot();
        shapes();
        shapesThatAreNot();
        codes();
        codesThatAreNot();
        frames();
        framesThatAreNot();
        totals();
        Check.end("AnswerBoundsTest");
    }

    /** "The QUEUE's next ROOT gets a CODE: that ROOT; NONE without one. (Also while a RUN is under way.)" */
    private static void compiles() {
        Check.due("of a new object", new Trees(1).compile(), NONE);
        Trees x = Check.loaded(2, "function main(a,b){f();1;}function f(){}");
        Check.due("of no run", x.compile(), NONE);
        x.start(0, 0);
        Check.due("not hot yet", x.compile(), NONE);
        x.run(9);
        x.start(0, 0);
        Check.due("under way", x.state(), 1);
        Check.due("under way, main", x.compile(), 4);
        Check.due("no other", x.compile(), NONE);
        x.run(1);
        Check.due("f", x.compile(), 5);
        Check.due("no other", x.compile(), NONE);
        Check.due("codes", x.total(7), 2);
    }

    private static final String TWELVE = "function abcdefghijkl(a,b,c,d,e,g){h=i=j=k=l=m=true;}function main(a,b){"
            + "abcdefghijkl(1,2,3,4,5,6);}";

    /** "what 0 how many NODES .. 10 .. 21 the SORT of LOCAL 0 .. 11; 30 and on the letters of its FUNCTION's NAME." */
    private static void roots() {
        Trees x = Check.ran(TWELVE);
        int[] wanted = {13, 12, 1, NONE, 0, NONE, 1, 12, NONE, NONE, 1, 1, 1, 1, 1, 1, 2, 2, 2, 2, 2, 2,
            NONE, NONE, NONE, NONE, NONE, NONE, NONE, NONE};
        for (int what = 0; what < 30; what++) {
            Check.due("root 4 what " + what, x.root(4, what), wanted[what]);
        }
        for (int i = 0; i < 12; i++) {
            Check.due("letter " + i, x.root(4, 30 + i), 'a' + i);
        }
        for (int what : new int[] {LEAST, -31, -30, -1, 42, 43, 100, MOST}) {
            Check.due("root 4 what " + what, x.root(4, what), NONE);
        }
        // Of what is there from the beginning.
        String[] names = {"print", "new", "kind", "define"};
        for (int r = 0; r < 4; r++) {
            int[] own = {0, 0, 0, NONE, 0, NONE, 1, 0, NONE, NONE, NONE, NONE};
            for (int what = 0; what < own.length; what++) {
                Check.due("root " + r + " what " + what, x.root(r, what), own[what]);
            }
            Check.due("sort 11 of root " + r, x.root(r, 21), NONE);
            for (int i = 0; i < names[r].length(); i++) {
                Check.due("letter " + i, x.root(r, 30 + i), names[r].charAt(i));
            }
            Check.due("behind the name", x.root(r, 30 + names[r].length()), NONE);
        }
        // LOCALS that are not there.
        Check.due("sort of main's last local", x.root(5, 11), 1);
        Check.due("sort of none", x.root(5, 12), NONE);
    }

    /** "NONE for another what, or no such ROOT." */
    private static void rootsThatAreNot() {
        Trees x = Check.ran(TWELVE);
        Check.due("the last", x.root(5, 0), 10);
        for (int r : new int[] {LEAST, -1, 6, 7, 59, 60, 61, MOST}) {
            for (int what : new int[] {0, 6, 10, 30}) {
                Check.due("root " + r + " what " + what, x.root(r, what), NONE);
            }
        }
        x = new Trees(1);
        Check.due("root 3 of a new object", x.root(3, 6), 1);
        Check.due("root 4 of a new object", x.root(4, 6), NONE);
    }

    /** "11 the LOCAL of PARAM, READ, WRITE. NONE for another what, what it does not have ..". */
    private static void nodes() {
        Trees x = Check.ran("function main(a,b){o=new();o.p=a;return o.p;}");
        // 0 a, 1 b, 2 WRITE o, 3 CALL 4 new, 5 PUT 6 o 7 a, 8 RETURN, 9 GET 10 o
        int[][] wanted = {
            {0, 14, 1, 1, NONE, NONE, NONE, NONE, NONE, NONE, NONE, 0},
            {0, 16, 1, 1, NONE, NONE, NONE, NONE, NONE, NONE, NONE, 1},
            {6, 19, 4, 1, NONE, NONE, NONE, NONE, NONE, NONE, NONE, 2},
            {23, 24, 0, 1, 1, 1, NONE, NONE, NONE, NONE, NONE, NONE},
            {7, 21, 0, 0, NONE, NONE, NONE, NONE, NONE, NONE, NONE, NONE},
            {22, 28, 0, 1, 1, 0, NONE, NONE, 1, NONE, NONE, NONE},
            {5, 27, 4, 1, NONE, NONE, NONE, NONE, NONE, NONE, NONE, 2},
            {5, 31, 1, 1, NONE, NONE, NONE, NONE, NONE, NONE, NONE, 0},
            {26, 33, 0, 0, NONE, NONE, NONE, NONE, NONE, NONE, NONE, NONE},
            {21, 41, 0, 1, 1, 1, NONE, NONE, NONE, NONE, NONE, NONE},
            {5, 40, 4, 1, NONE, NONE, NONE, NONE, NONE, NONE, NONE, 2}};
        for (int k = 0; k < wanted.length; k++) {
            for (int what = 0; what < 12; what++) {
                Check.due("node " + k + " what " + what, x.node(4, k, what), wanted[k][what]);
            }
            for (int what : new int[] {LEAST, -1, 12, 13, MOST}) {
                Check.due("node " + k + " what " + what, x.node(4, k, what), NONE);
            }
        }
        Check.due("nodes", x.root(4, 0), wanted.length);
    }

    /** ".. or no such NODE." */
    private static void nodesThatAreNot() {
        Trees x = Check.loaded(1, "function main(a,b){" + Check.times("1;", 298) + "}function f(){1;}function g(){}");
        Check.due("the 300th", x.node(4, 299, 0), 1);
        Check.due("the first of f", x.node(5, 0, 0), 1);
        for (int k : new int[] {LEAST, -1, 300, 301, MOST}) {
            Check.due("node " + k, x.node(4, k, 0), NONE);
        }
        Check.due("the second of f", x.node(5, 1, 0), NONE);
        Check.due("of a root without nodes", x.node(6, 0, 0), NONE);
        for (int r = 0; r < 4; r++) {
            Check.due("of root " + r, x.node(r, 0, 0), NONE);
        }
        for (int r : new int[] {LEAST, -1, 7, 60, MOST}) {
            Check.due("of root " + r, x.node(r, 0, 0), NONE);
        }
    }

    /** "5 .. 7 of the first to third ENTRY the ROOT, or the SHAPE (ahead), 8 .. 10 of a PUT's the SHAPE behind". */
    private static void entriesThatAreNot() {
        Trees x = Check.loaded(100, "function main(a,b){o=new();if(a>0){o.x=1;}if(a>1){o.y=1;}if(a>2){o.z=1;}"
                + "o.p=a;return o.p;}");
        // 26 PUT, 30 GET; SHAPES: 1 p; 2 x, 3 xp; 4 xy, 5 xyp
        int[] ahead = {0, 2, 4};
        int[] behind = {1, 3, 5};
        for (int a = 0; a < 4; a++) {
            for (int i = 0; i < 3; i++) {
                Check.due("put ahead", x.node(4, 26, 5 + i), i < a ? ahead[i] : NONE);
                Check.due("put behind", x.node(4, 26, 8 + i), i < a ? behind[i] : NONE);
                Check.due("get ahead", x.node(4, 30, 5 + i), i < a ? behind[i] : NONE);
                Check.due("get behind", x.node(4, 30, 8 + i), NONE);
            }
            Check.due("put entries", x.node(4, 26, 4), a);
            Check.due("get entries", x.node(4, 30, 4), a);
            x.start(a, 0);
            x.run(100);
        }
        for (int what = 5; what < 11; what++) {
            Check.due("put that is open", x.node(4, 26, what), NONE);
            Check.due("get that is open", x.node(4, 30, what), NONE);
        }
    }

    /** "what 0 its PARENT (NONE of SHAPE 0) .. 2 its HEIR, NONE .. 4 and on the letters of the last one's." */
    private static void shapes() {
        Trees x = Check.ran("function main(){t=\"0123456789012345678901234567890123456789\";o=new();o[t+t+t+t+t]=1;"
                + "o.b=true;o[\"\"]=1;o[\"\"]=null;}");
        int[][] wanted = {{NONE, NONE, NONE, 0, NONE, NONE}, {0, 1, NONE, 1, '0', '1'}, {1, 3, NONE, 2, 'b', NONE},
            {2, 1, 4, 3, NONE, NONE}, {2, 3, NONE, 3, NONE, NONE}};
        for (int s = 0; s < wanted.length; s++) {
            for (int what = 0; what < 6; what++) {
                Check.due("shape " + s + " what " + what, x.shape(s, what), wanted[s][what]);
            }
            for (int what : new int[] {LEAST, -2, -1, 204, 205, MOST}) {
                Check.due("shape " + s + " what " + what, x.shape(s, what), NONE);
            }
        }
        Check.due("the last letter of 200", x.shape(1, 203), '9');
    }

    /** ".. or no such SHAPE." */
    private static void shapesThatAreNot() {
        Trees x = Check.ran("function main(){o=new();o.p=1;}");
        Check.due("the last", x.shape(1, 3), 1);
        for (int s : new int[] {LEAST, -1, 2, 3, 199, 200, MOST}) {
            for (int what = 0; what < 5; what++) {
                Check.due("shape " + s + " what " + what, x.shape(s, what), NONE);
            }
        }
        x = new Trees(1);
        Check.due("shape 0 of a new object", x.shape(0, 3), 0);
        Check.due("shape 1 of a new object", x.shape(1, 3), NONE);
    }

    /** "what 0 its ROOT .. 7 FALLS; 10 and on the ROOTS of its UNITS. NONE for another what ..". */
    private static void codes() {
        Trees x = Check.loaded(1, "function main(a,b){f();}function f(){1;}");
        x.start(0, 0);
        x.run(9);
        x.compile();
        x.start(0, 0);
        x.run(9);
        int[] wanted = {4, 1, 2, 5, 3, 1, 0, 0, NONE, NONE, 4, 5, NONE, NONE};
        for (int what = 0; what < wanted.length; what++) {
            Check.due("code 0 what " + what, x.code(0, what), wanted[what]);
        }
        for (int what : new int[] {LEAST, -10, -1, 85, 86, 100, MOST}) {
            Check.due("code 0 what " + what, x.code(0, what), NONE);
        }
    }

    /** ".. or no such CODE." */
    private static void codesThatAreNot() {
        Trees x = Check.loaded(1, "function main(a,b){f();}function f(){1;}");
        Check.due("none at first", x.code(0, 0), NONE);
        x.start(0, 0);
        x.run(9);
        Check.due("none of the queue", x.code(0, 0), NONE);
        x.compile();
        Check.due("code 0", x.code(0, 0), 4);
        x.compile();
        Check.due("code 1", x.code(1, 0), 5);
        for (int c : new int[] {LEAST, -1, 2, 99, 100, MOST}) {
            for (int what = 0; what < 11; what++) {
                Check.due("code " + c + " what " + what, x.code(c, what), NONE);
            }
        }
    }

    /** "what 0 its ROOT, 1 its CODE, NONE .. 10 .. 21 the TAG of LOCAL 0 .. 11. NONE for another what ..". */
    private static void frames() {
        Trees x = Check.loaded(1, "function main(a,b){f(1,true);}"
                + "function f(a,b,c,d,e,g){h=i=j=k=l=m=true;n();}function n(){1;}");
        x.start(0, 0);
        x.run(3);
        Check.due("n", x.frame(0, 0), 6);
        int[] wanted = {5, NONE, NONE, 0, NONE, NONE, NONE, NONE, NONE, NONE, 1, 2, 3, 3, 3, 3, 2, 2, 2, 2, 2, 2};
        for (int what = 0; what < 22; what++) {
            Check.due("frame 1 what " + what, x.frame(1, what), wanted[what]);
        }
        for (int what : new int[] {LEAST, -1, 22, 23, 30, MOST}) {
            Check.due("frame 1 what " + what, x.frame(1, what), NONE);
        }
        for (int what = 10; what < 22; what++) {
            Check.due("frame 0 has no locals", x.frame(0, what), NONE);
            Check.due("frame 2 has two", x.frame(2, what), what < 12 ? 1 : NONE);
        }
    }

    /** "Of the k-th newest open ACTIVATION (0 the newest; there are none but while a RUN is under way)"; "or none such". */
    private static void framesThatAreNot() {
        Trees x = Check.loaded(100, "function f(n){if(n>1){f(n-1);}1/n;}function main(a,b){f(a);if(b==1){1/0;}}");
        Check.due("no run", x.frame(0, 0), NONE);
        x.start(58, 0);
        // main's STATEMENT, two of each f but the last, one of that.
        x.run(1 + 57 * 2 + 1);
        Check.due("activations", x.total(1), 59);
        Check.due("the newest", x.frame(0, 0), 4);
        Check.due("the oldest but one", x.frame(57, 0), 4);
        Check.due("main", x.frame(58, 0), 5);
        for (int k : new int[] {LEAST, -1, 59, 60, MOST}) {
            for (int what : new int[] {0, 1, 2, 3, 10}) {
                Check.due("frame " + k + " what " + what, x.frame(k, what), NONE);
            }
        }
        x.run(20001);
        Check.due("end", x.state(), 2);
        Check.due("none at the end", x.frame(0, 0), NONE);
        x.start(2, 1);
        x.run(20001);
        Check.due("error", x.state(), 3);
        Check.due("none by an error", x.frame(0, 0), NONE);
        Check.due("none open", x.total(1), 0);
    }

    /** "What 0 STEPS of the RUN .. 15 INLINED ones. NONE for another what." */
    private static void totals() {
        Trees x = new Trees(5);
        int[] wanted = {0, 0, 0, 0, 0, 4, 1, 0, 0, 0, 0, 0, 0, 0, 0, 0};
        for (int what = 0; what < 16; what++) {
            Check.due("total " + what, x.total(what), wanted[what]);
        }
        for (int what : new int[] {LEAST, -2, -1, 16, 17, MOST}) {
            Check.due("total " + what, x.total(what), NONE);
        }
    }
}
