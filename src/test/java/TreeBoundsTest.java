import java.util.Arrays;

/** The ends of STATES, ENTRIES and LONGS: each method has one sentence of chapter III. */
final class TreeBoundsTest {
    private static final int NONE = GraftTrees.NONE;
    private static final long LEAST = Long.MIN_VALUE;
    private static final long MOST = Long.MAX_VALUE;

    public static void main(String[] args) {
        numbersOfTextsThatFit();
        sumsThatFit();
        productsThatFit();
        quotientsThatFit();
        bigStaysBig();
        signsReplace();
        ordersReplace();
        equalsReplace();
        lazyAndBranches();
        paramsAndWrites();
        reads();
        noChangeByError();
        changeAheadOfWhatComes();
        twoEntriesOfCall();
        entriesSideBySide();
        threeEntriesOfGet();
        threeEntriesOfPut();
        openNeverChanges();
        staleEntriesOfCallGoFirst();
        staleEntriesOfGetGoFirst();
        staleEntriesOfPutGoFirst();
        staysFromRunToRun();
        Check.end("TreeBoundsTest");
    }

    /** main(a,b) with that body, run once with each pair. */
    private static Trees ran(String body, long... args) {
        Trees x = Check.loaded(100, "function main(a,b){" + body + "}");
        for (int i = 0; i + 1 < args.length; i += 2) {
            x.start(args[i], args[i + 1]);
            x.run(20001);
        }
        return x;
    }

    private static void state(String body, int k, int want, long... args) {
        Check.due("state of node " + k + " of " + body, ran(body, args).node(4, k, 2), want);
    }

    /** "a number is LONG (it fits into 64 bits, with a sign) or BIG: a NUMBER of a TEXT is LONG if it fits". */
    private static void numbersOfTextsThatFit() {
        String[] longs = {"0", "9223372036854775807", "000000000000000009223372036854775807", "999999999999999999"};
        for (String number : longs) {
            state("x=" + number + ";", 2, 1, 0, 0);
            state(number + "<1;", 2, 1, 0, 0);
        }
        String[] bigs = {"9223372036854775808", "9223372036854775809", "9999999999999999999", "10000000000000000000",
            "18446744073709551615", "18446744073709551616", "18446744073709551617", "36893488147419103232",
            Check.times("9", 36)};
        for (String number : bigs) {
            state("x=" + number + ";", 2, 4, 0, 0);
            state(number + "<1;", 2, 2, 0, 0);
        }
    }

    /** "1: both are LONG, and the result fits: that is LONG." */
    private static void sumsThatFit() {
        state("a+b;", 2, 1, MOST, 0);
        state("a+b;", 2, 2, MOST, 1);
        state("a+b;", 2, 2, 1, MOST);
        state("a+b;", 2, 1, MOST - 1, 1);
        state("a+b;", 2, 1, LEAST, 0);
        state("a+b;", 2, 2, LEAST, -1);
        state("a+b;", 2, 1, LEAST + 1, -1);
        state("a+b;", 2, 1, LEAST, MOST);
        state("a+b;", 2, 2, LEAST, LEAST);
        state("a+b;", 2, 2, MOST, MOST);
        state("a+b;", 2, 2, 0x5555555555555555L, 0x5555555555555555L);
        state("a-b;", 2, 1, LEAST, 0);
        state("a-b;", 2, 2, LEAST, 1);
        state("a-b;", 2, 1, LEAST + 1, 1);
        state("a-b;", 2, 2, MOST, -1);
        state("a-b;", 2, 1, MOST - 1, -1);
        state("a-b;", 2, 2, 0, LEAST);
        state("a-b;", 2, 1, -1, LEAST);
        state("a-b;", 2, 1, LEAST, LEAST);
        state("a-b;", 2, 1, 0, MOST);
        state("a-b;", 2, 2, 0xAAAAAAAAAAAAAAAAL, 0x5555555555555555L);
        // What is LONG and what is BIG are the same numbers to a program.
        Check.due("least", Check.outcome(ran("return a+b;", LEAST + 1, -1)), "" + LEAST);
        Check.due("below it", Check.outcome(ran("return a+b;", LEAST, -1)), "-9223372036854775809");
        Check.due("above the most", Check.outcome(ran("return a-b;", MOST, -1)), "9223372036854775808");
    }

    private static void productsThatFit() {
        state("a*b;", 2, 1, 3037000499L, 3037000499L);
        state("a*b;", 2, 2, 3037000500L, 3037000500L);
        state("a*b;", 2, 2, 1L << 32, 1L << 31);
        state("a*b;", 2, 1, 1L << 32, -(1L << 31));
        state("a*b;", 2, 1, -(1L << 32), 1L << 31);
        state("a*b;", 2, 2, -(1L << 32), -(1L << 31));
        state("a*b;", 2, 1, LEAST, 1);
        state("a*b;", 2, 1, 1, LEAST);
        state("a*b;", 2, 2, LEAST, -1);
        state("a*b;", 2, 2, -1, LEAST);
        state("a*b;", 2, 1, LEAST, 0);
        state("a*b;", 2, 1, 0, LEAST);
        state("a*b;", 2, 1, MOST, -1);
        state("a*b;", 2, 2, MOST, 2);
        state("a*b;", 2, 2, 1L << 62, 2);
        state("a*b;", 2, 1, 1L << 62, -2);
        state("a*b;", 2, 2, 1L << 62, 4);
        Check.due("least", Check.outcome(ran("return a*b;", 1L << 62, -2)), "" + LEAST);
        Check.due("as much above", Check.outcome(ran("return a*b;", 1L << 62, 2)), "9223372036854775808");
    }

    private static void quotientsThatFit() {
        state("a/b;", 2, 1, LEAST, 1);
        state("a/b;", 2, 2, LEAST, -1);
        state("a/b;", 2, 1, LEAST + 1, -1);
        state("a/b;", 2, 1, MOST, -1);
        state("a/b;", 2, 1, LEAST, LEAST);
        state("a/b;", 2, 1, LEAST, 2);
        Check.due("above the most", Check.outcome(ran("return a/b;", LEAST, -1)), "9223372036854775808");
    }

    /** "2, REPLACES: numbers: the result is BIG": however small it is. */
    private static void bigStaysBig() {
        // 2 WRITE x 3, 4 WRITE y 5 - 6 7, 8 y+1
        state("x=9223372036854775808;y=x-x;y+1;", 8, 2, 0, 0);
        state("x=9223372036854775808;y=x/x;y<2;", 8, 2, 0, 0);
        state("x=9223372036854775808;y=x*0;y==0;", 8, 8, 0, 0);
        Check.due("it is what it is", Check.outcome(ran("x=9223372036854775808;return x/x==1;", 0, 0)), "true");
    }

    /** "one that REPLACES takes those below it away, and none of these may come again": + - * / . */
    private static void signsReplace() {
        long[][] fits = {{1, 2}, {1, 2}, {1, 2}, {1, 2}};
        long[][] great = {{MOST, 1}, {LEAST, 1}, {MOST, 2}, {LEAST, -1}};
        String[] signs = {"+", "-", "*", "/"};
        for (int i = 0; i < 4; i++) {
            String body = "a" + signs[i] + "b;";
            long[] f = fits[i];
            long[] g = great[i];
            state(body, 2, 0);
            state(body, 2, 1, f[0], f[1]);
            state(body, 2, 2, g[0], g[1]);
            state(body, 2, 2, f[0], f[1], g[0], g[1]);
            state(body, 2, 2, g[0], g[1], f[0], f[1]);
            Trees x = ran(body, f[0], f[1], g[0], g[1], f[0], f[1], g[0], g[1]);
            Check.due("state of " + body, x.node(4, 2, 2), 2);
            Check.due("changes of " + body, x.node(4, 2, 3), 2);
        }
        // 4 of + replaces nothing, and 2 leaves it: 0, 1 PARAM, 2 WRITE 3, 4 IF 5 6 7, 8 WRITE 9, 10 +
        String joined = "x=a;if(b==0){x=\"s\";}x+b;";
        state(joined, 10, 1, 1, 1);
        state(joined, 10, 4, 1, 0);
        state(joined, 10, 5, 1, 1, 1, 0);
        state(joined, 10, 5, 1, 0, 1, 1);
        state(joined, 10, 6, 1, 0, 1, 1, MOST, 1);
        state(joined, 10, 6, MOST, 1, 1, 0);
        state(joined, 10, 6, MOST, 1, 1, 0, 1, 1);
    }

    /** "< <= > >=: 1: both LONG. 2, REPLACES: numbers." */
    private static void ordersReplace() {
        for (String sign : "< <= > >=".split(" ")) {
            // 0, 1 PARAM, 2 WRITE 3, 4 IF 5 6 7, 8 WRITE 9, 10 sign
            for (String sides : new String[] {"x" + sign + "a;", "a" + sign + "x;", "x" + sign + "x;"}) {
                String body = "x=a;if(b==0){x=9223372036854775808;}" + sides;
                state(body, 10, 1, 1, 1);
                state(body, 10, 2, 1, 0);
                state(body, 10, 2, 1, 1, 1, 0);
                Trees x = ran(body, 1, 1, 1, 0, 1, 1, 1, 0);
                Check.due("state of " + body, x.node(4, 10, 2), 2);
                Check.due("changes of " + body, x.node(4, 10, 3), 2);
            }
        }
    }

    /** "== !=: 1: both LONG. 2: truths. 4: STRINGS. 8, REPLACES: all." */
    private static void equalsReplace() {
        for (String sign : new String[] {"==", "!="}) {
            String body = "x=a;y=x;if(b==1){x=true;y=x;}if(b==2){x=\"s\";y=x;}if(b==3){x=null;y=x;}if(b==4){y=true;}"
                    + "if(b==5){x=y=9223372036854775808;}x" + sign + "y;";
            // 2 x 3, 4 y 5, 6 IF .. 13, 14 IF .. 21, 22 IF .. 29, 30 IF .. 35, 36 IF .. 42, 43 sign
            int[] alone = {1, 2, 4, 8, 8, 8};
            for (int b = 0; b < 6; b++) {
                state(body, 43, alone[b], 5, b);
                state(body, 43, alone[b] == 8 ? 8 : 1 | alone[b], 5, 0, 5, b);
                state(body, 43, 8, 5, 3, 5, b);
            }
            state(body, 43, 7, 5, 2, 5, 1, 5, 0);
            state(body, 43, 8, 5, 2, 5, 1, 5, 0, 5, 4);
            Trees x = ran(body, 5, 2, 5, 1, 5, 0, 5, 4, 5, 0, 5, 1, 5, 2);
            Check.due("none may come again", x.node(4, 43, 2), 8);
            Check.due("changes", x.node(4, 43, 3), 4);
        }
    }

    /** "&& ||, as the left side is there: 1 .. 2 ..; IF, WHILE (each time that E is there): 1: E is true; 2: false." */
    private static void lazyAndBranches() {
        String[] bodies = {"a==1&&true;", "a!=1||true;", "if(a==1){}", "while(a==1){break;}"};
        for (String body : bodies) {
            state(body, 2, 0);
            state(body, 2, 1, 1, 0);
            state(body, 2, 2, 0, 0);
            state(body, 2, 3, 1, 0, 0, 0);
            state(body, 2, 3, 0, 0, 1, 0);
            Check.due("changes of " + body, ran(body, 1, 0, 1, 0).node(4, 2, 3), 1);
            Check.due("changes of " + body, ran(body, 0, 0, 1, 0, 0, 0, 1, 0).node(4, 2, 3), 2);
        }
        state("while(a==1){a=2;}", 2, 3, 1, 0);
    }

    /** "PARAM .., WRITE: 1: a LONG, and the SORT is 1 (it may come if that is 0 or 1 ..). 2 .. 4, REPLACES: all". */
    private static void paramsAndWrites() {
        // f is called with what x is: 4 IF .. and so on; f's PARAM is NODE 0 of ROOT 5.
        String text = "function main(a,b){x=a;if(b==1){x=true;}if(b==2){x=null;}if(b==3){x=9223372036854775808;}f(x);}"
                + "function f(p){q=p;}";
        int[][] runs = {{0}, {1}, {2}, {3}, {0, 0}, {0, 1}, {1, 0}, {1, 1}, {0, 3}, {2, 0}, {2, 1}, {1, 2}};
        int[] states = {1, 2, 4, 4, 1, 4, 4, 2, 4, 4, 4, 4};
        int[] changes = {1, 1, 1, 1, 1, 2, 2, 1, 2, 1, 1, 2};
        for (int i = 0; i < runs.length; i++) {
            Trees x = Check.loaded(100, text);
            for (int b : runs[i]) {
                x.start(5, b);
                x.run(100);
            }
            for (int k = 0; k < 2; k++) {
                Check.due("state of " + k + " by runs " + i, x.node(5, k, 2), states[i]);
                Check.due("changes of " + k + " by runs " + i, x.node(5, k, 3), changes[i]);
                Check.due("sort of " + k + " by runs " + i, x.root(5, 10 + k), Math.min(3, states[i]));
            }
        }
        // The SORT is the LOCAL's: one WRITE of another SORT makes bit 1 of another one fit no more.
        Trees x = ran("x=1;if(b==1){x=true;}x=2;", 0, 0);
        // 2 x 3, 4 IF 5 6 7 8 x 9, 10 x 11
        Check.due("the last write", x.node(4, 10, 2), 1);
        x.start(0, 1);
        x.run(100);
        Check.due("the write of a truth", x.node(4, 8, 2), 4);
        Check.due("the last write", x.node(4, 10, 2), 4);
        Check.due("the first write, ahead of it", x.node(4, 2, 2), 1);
    }

    /** "READ: 1: TAG 1. 2: TAG 2. 4, REPLACES: all; may come for TAG 3 alone". */
    private static void reads() {
        // 2 IF 3 4 5, 6 x 7, 8 IF 9 10 11, 12 x 13, 14 IF 15 16 17, 18 x 19, 20 x
        String body = "if(b==1){x=1;}if(b==2){x=true;}if(b==3){x=null;}x;";
        state(body, 20, 4, 0, 0);
        state(body, 20, 1, 0, 1);
        state(body, 20, 2, 0, 2);
        state(body, 20, 4, 0, 3);
        state(body, 20, 4, 0, 1, 0, 2);
        state(body, 20, 4, 0, 1, 0, 0, 0, 1);
        Check.due("changes", ran(body, 0, 1, 0, 0, 0, 1, 0, 3).node(4, 20, 3), 2);
        Check.due("changes", ran(body, 0, 1, 0, 1, 0, 1).node(4, 20, 3), 1);
    }

    /** "By an ERROR of a NODE .. it does not change". */
    private static void noChangeByError() {
        state("a/b;", 2, 0, 1, 0);
        state("a+null;", 2, 0, 1, 0);
        state("a-\"s\";", 2, 0, 1, 0);
        state("999999999999999999999999999999999999+a;", 2, 0, 1, 0);
        state("999999999999999999999999999999999999*b;", 2, 0, 1, 2);
        state("\"s\"+main;", 2, 0, 1, 0);
        state("a<null;", 2, 0, 1, 0);
        state("1&&true;", 2, 0, 0, 0);
        state("null||true;", 2, 0, 0, 0);
        state("if(1){}", 2, 0, 0, 0);
        state("while(null){}", 2, 0, 0, 0);
        int[] none = {2, 2, 5, 5, 8, 2, 2};
        String[] bodies = {"1 .p;", "1 .p=2;", "o=new();o[1];", "o=new();o[1]=2;", "o=new();o.p=1;o.q;", "1();", "ghost();"};
        for (int i = 0; i < none.length; i++) {
            Trees x = ran(bodies[i], 0, 0);
            Check.due("state of " + bodies[i], x.state(), 3);
            Check.due("place of " + bodies[i], x.error(2), none[i]);
            Check.due("entries of " + bodies[i], x.node(4, none[i], 4), 0);
            Check.due("changes of " + bodies[i], x.node(4, none[i], 3), 0);
        }
        // A STRING that is too great; what there is no place for to be MADE.
        Trees great = ran("s=\"" + Check.times("s", 40) + "\";s=s+s+s+s+s;s+\"x\";", 0, 0);
        Check.due("error", great.error(0), 8);
        Check.due("state of the string's +", great.node(4, great.error(2), 2), 0);
        for (String last : new String[] {"\"\"+\"\"", "x+1", "x-1", "x*1", "x/1"}) {
            Trees full = ran("x=9223372036854775808;i=0;while(i<1000){x" + Check.times("+0", 25) + ";i=i+1;}" + last + ";",
                    0, 0);
            Check.due("error of " + last, full.error(0), 9);
            Check.due("state of " + last, full.node(4, full.error(2), 2), 0);
            Check.due("changes of " + last, full.node(4, full.error(2), 3), 0);
        }
        // A 13th PROPERTY; a call that is DEEP.
        Trees x = ran("o=new();i=0;while(i<12){o[\"k\"+i]=i;i=i+1;}o.z=1;", 0, 0);
        Check.due("entries of the 13th", x.node(4, 21, 4), 0);
        x = Check.ran("function f(n){if(n>1){f(n-1);}else{f(0);}}function main(){f(58);}");
        Check.due("error", Check.outcome(x), "E7@10");
        Check.due("entries of the deep call", x.node(4, 10, 4), 0);
    }

    /** "(Of && || what the right side comes to, of a CALL what its FUNCTION comes to, 9 and 11 too, is behind all this.)" */
    private static void changeAheadOfWhatComes() {
        state("true&&1;", 2, 1, 0, 0);
        state("false||1;", 2, 1, 0, 0);
        state("true&&1/0==1;", 2, 1, 0, 0);
        called("define(1);", 2, 11, 3);
        called("define(\"\");", 2, 11, 3);
        // 2 i 3, 4 WHILE 5 6 7, 8 CALL 9, 10 i .., 14 CALL
        called("i=0;while(i<400){new();i=i+1;}new();", 14, 9, 1);
        called("i=0;while(i<54){define(\"function f\"+i+\"(){}\");i=i+1;}define(\"function g(){}\");", 19, 9, 3);
        called("f(0);", 2, 2, 5);
    }

    private static void called(String body, int k, int error, int entry) {
        Trees x = Check.ran("function main(a,b){" + body + "}function f(n){return 1/n;}");
        Check.due("error of " + body, x.error(0), error);
        Check.due("entries of " + body, x.node(4, k, 4), 1);
        Check.due("entry of " + body, x.node(4, k, 5), entry);
        Check.due("changes of " + body, x.node(4, k, 3), 1);
    }

    private static void runs(Trees x, long a, long b) {
        x.start(a, b);
        x.run(20001);
        Check.due("it came to its end", x.state(), 2);
    }

    private static void entries(Trees x, int k, int state, int changes, int... ahead) {
        Check.due("state of " + k, x.node(4, k, 2), state);
        Check.due("changes of " + k, x.node(4, k, 3), changes);
        Check.due("entries of " + k, x.node(4, k, 4), ahead.length);
        for (int i = 0; i < 3; i++) {
            Check.due("entry " + i + " of " + k, x.node(4, k, 5 + i), i < ahead.length ? ahead[i] : NONE);
        }
    }

    /** "at most .. 2 of CALL; or STATE 1: OPEN, and no ENTRIES"; "if there is no place for it the NODE becomes OPEN". */
    private static void twoEntriesOfCall() {
        Trees x = Check.loaded(100, "function main(a,b){f=kind;if(a==1){f=g;}if(a==2){f=h;}f();}"
                + "function g(){}function h(){}");
        // 2 f 3, 4 IF .. 9, 10 IF .. 15, 16 CALL 17
        entries(x, 16, 0, 0);
        runs(x, 0, 0);
        entries(x, 16, 0, 1, 2);
        runs(x, 1, 0);
        entries(x, 16, 0, 2, 2, 5);
        runs(x, 0, 0);
        entries(x, 16, 0, 2, 2, 5);
        runs(x, 2, 0);
        entries(x, 16, 1, 3);
    }

    /** NODES side by side have each their own ENTRIES. */
    private static void entriesSideBySide() {
        Trees x = Check.loaded(100, "function main(a,b){o=new();p=new();if(a>0){o.x=1;}if(b>0){p.x=1;}if(a>1){o.y=1;}"
                + "if(b>1){p.y=1;}p.q=1;o.p=p;o.p.q;}");
        // 2 o, 5 p, 8 IF, 15 IF, 22 IF, 29 IF, 36 PUT, 39 PUT, 42 GET q, 43 GET p
        for (int a = 0; a < 3; a++) {
            for (int b = 0; b < 3; b++) {
                runs(x, a, b);
            }
        }
        Check.due("entries of .q", x.node(4, 42, 4), 3);
        Check.due("entries of .p", x.node(4, 43, 4), 3);
        for (int i = 0; i < 3; i++) {
            Check.due("q of entry " + i, x.shape(x.node(4, 42, 5 + i), 4), 'q');
            Check.due("p of entry " + i, x.shape(x.node(4, 43, 5 + i), 4), 'p');
            Check.due("properties of entry " + i, x.shape(x.node(4, 42, 5 + i), 3), i + 1);
            Check.due("properties of entry " + i, x.shape(x.node(4, 43, 5 + i), 3), i + 1);
        }
        Check.due("changes of .q", x.node(4, 42, 3), 3);
        Check.due("changes of .p", x.node(4, 43, 3), 3);
    }

    private static final String BY_SHAPE = "function main(a,b){o=new();if(a>0){o.x=1;}if(a>1){o.y=1;}if(a>2){o.z=1;}"
            + "o.p=1;o.p;o.p=2;}";

    /** "at most 3 of GET, PUT". */
    private static void threeEntriesOfGet() {
        Trees x = Check.loaded(100, BY_SHAPE);
        // 26 PUT 27 28, 29 GET 30, 31 PUT; SHAPES: 1 p; 2 x, 3 xp; 4 xy, 5 xyp; 6 xyz, 7 xyzp
        entries(x, 29, 0, 0);
        runs(x, 0, 0);
        entries(x, 29, 0, 1, 1);
        runs(x, 1, 0);
        entries(x, 29, 0, 2, 1, 3);
        runs(x, 2, 0);
        entries(x, 29, 0, 3, 1, 3, 5);
        runs(x, 0, 0);
        runs(x, 1, 0);
        entries(x, 29, 0, 3, 1, 3, 5);
        runs(x, 3, 0);
        entries(x, 29, 1, 4);
    }

    private static void threeEntriesOfPut() {
        Trees x = Check.loaded(100, BY_SHAPE);
        int[] first = {0, 2, 4};
        int[] second = {1, 3, 5};
        for (int a = 0; a < 3; a++) {
            runs(x, a, 0);
            entries(x, 26, 0, a + 1, Arrays.copyOf(first, a + 1));
            entries(x, 31, 0, a + 1, Arrays.copyOf(second, a + 1));
            Check.due("behind", x.node(4, 26, 8 + a), second[a]);
            Check.due("behind", x.node(4, 31, 8 + a), second[a]);
        }
        runs(x, 3, 0);
        entries(x, 26, 1, 4);
        entries(x, 31, 1, 4);
    }

    /** "One that is OPEN never CHANGES." */
    private static void openNeverChanges() {
        Trees x = Check.loaded(100, BY_SHAPE);
        for (int a = 0; a < 4; a++) {
            runs(x, a, 0);
        }
        for (int a = 3; a >= 0; a--) {
            runs(x, a, 0);
            entries(x, 26, 1, 4);
            entries(x, 29, 1, 4);
        }
        x = Check.loaded(100, "function main(a,b){f=kind;if(a==1){f=g;}if(a==2){f=h;}f();define(\"function h(){}\");}"
                + "function g(){}function h(){}");
        for (int a = 0; a < 3; a++) {
            runs(x, a, 0);
        }
        for (int a = 0; a < 3; a++) {
            runs(x, a, 0);
            entries(x, 16, 1, 3);
        }
    }

    /** "first ENTRIES that are STALE go; then, if none fits, the one that does comes behind the others": CALL. */
    private static void staleEntriesOfCallGoFirst() {
        String text = "function main(a,b){if(a==1){define(\"function g(){}\");}f=g;if(b==1){f=h;}if(b==2){f=k;}f();}"
                + "function g(){}function h(){}function k(){}";
        // 2 IF 3 4 5 6 7 8, 9 f 10, 11 IF .. 16, 17 IF .. 22, 23 CALL; g 5, h 6, k 7
        Trees x = Check.loaded(100, text);
        runs(x, 0, 0);
        runs(x, 0, 1);
        entries(x, 23, 0, 2, 5, 6);
        runs(x, 1, 2);
        entries(x, 23, 0, 3, 6, 7);
        x = Check.loaded(100, text);
        runs(x, 0, 0);
        runs(x, 0, 1);
        runs(x, 1, 1);
        entries(x, 23, 0, 3, 6);
        x = Check.loaded(100, text);
        runs(x, 0, 0);
        runs(x, 0, 1);
        runs(x, 1, 0);
        entries(x, 23, 0, 3, 6, 8);
        // Both are STALE.
        runs(x, 1, 0);
        entries(x, 23, 0, 4, 6, 9);
        x = Check.loaded(100, text);
        runs(x, 0, 0);
        runs(x, 1, 0);
        runs(x, 1, 0);
        entries(x, 23, 0, 3, 9);
    }

    /** Likewise GET: "STALE if the SHAPE is OBSOLETE". */
    private static void staleEntriesOfGetGoFirst() {
        // b tells which PROPERTY becomes no LONG, ahead of the GET: the SHAPE of p alone, xp or xyp.
        String text = "function main(a,b){o=new();if(a>0){o.x=1;}if(a>1){o.y=1;}if(a>2){o.z=1;}o.p=1;"
                + "if(b==1){o.p=null;}o.p;}";
        // 26 PUT 27 28, 29 IF 30 31 32 33 PUT 34 35, 36 GET
        Trees x = Check.loaded(100, text);
        for (int a = 0; a < 3; a++) {
            runs(x, a, 0);
        }
        entries(x, 36, 0, 3, 1, 3, 5);
        runs(x, 1, 1);
        // 3 is OBSOLETE, its HEIR is 6.
        entries(x, 36, 0, 4, 1, 5, 6);
        runs(x, 3, 0);
        entries(x, 36, 1, 5);
        x = Check.loaded(100, text);
        for (int a = 0; a < 3; a++) {
            runs(x, a, 0);
        }
        // The first becomes STALE, and what fits is another that is there no more than before.
        runs(x, 0, 1);
        entries(x, 36, 0, 4, 3, 5, 6);
        runs(x, 1, 0);
        entries(x, 36, 0, 4, 3, 5, 6);
    }

    /** Likewise PUT: "STALE if one of them is OBSOLETE". */
    private static void staleEntriesOfPutGoFirst() {
        String text = "function main(a,b){o=new();if(a>0){o.x=1;}if(a>1){o.y=1;}o.p=1;o.p=2;if(b==1){o.p=null;}}";
        // 2 o .., 5 IF .. 11, 12 IF .. 18, 19 PUT 20 21, 22 PUT 23 24, 25 IF 26 27 28 29 PUT
        Trees x = Check.loaded(100, text);
        for (int a = 0; a < 3; a++) {
            runs(x, a, 0);
        }
        entries(x, 19, 0, 3, 0, 2, 4);
        entries(x, 22, 0, 3, 1, 3, 5);
        runs(x, 1, 1);
        // 3 is OBSOLETE: behind of the first PUT's second ENTRY, ahead and behind of the other's.
        runs(x, 0, 0);
        entries(x, 19, 0, 4, 0, 4);
        entries(x, 22, 0, 4, 1, 5);
        runs(x, 1, 0);
        entries(x, 19, 0, 5, 0, 4, 2);
        entries(x, 22, 0, 5, 1, 5, 6);
        Check.due("behind", x.node(4, 19, 10), 6);
        // The SHAPE ahead alone: x becomes OBSOLETE, xp does not.
        x = Check.loaded(100, "function main(a,b){o=new();o.x=1;if(b==1){o.x=null;}o.p=1;}");
        // 2 o .., 5 PUT 6 7, 8 IF 9 10 11 12 PUT 13 14, 15 PUT
        runs(x, 0, 0);
        entries(x, 15, 0, 1, 1);
        runs(x, 0, 1);
        entries(x, 15, 0, 2, 3);
        Check.due("ahead was obsolete", x.shape(1, 2), 3);
        Check.due("behind was not", x.shape(2, 2), NONE);
    }

    /** "All that is told in this part stays from RUN to RUN." */
    private static void staysFromRunToRun() {
        Trees x = Check.loaded(100, "function main(a,b){o=new();o.p=a;define(\"function f(){}\");f();return o.p<b;}");
        runs(x, 1, 2);
        int changes = x.total(9);
        Check.due("changes of main", x.root(4, 7), changes);
        Check.due("roots", x.total(5), 6);
        Check.due("shapes", x.total(6), 2);
        x.start(1, 2);
        Check.due("changes", x.total(9), changes);
        Check.due("roots", x.total(5), 6);
        Check.due("shapes", x.total(6), 2);
        Check.due("sort of a", x.root(4, 10), 1);
        Check.due("f of the run before", x.root(5, 6), 1);
    }
}
