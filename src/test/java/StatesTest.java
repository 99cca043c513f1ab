/** STATES, SORTS, TAGS, ENTRIES and MADE: promises 12, 13 and 16, and the CHANGES of 17. */
final class StatesTest {
    private static final int NONE = GraftTrees.NONE;

    public static void main(String[] args) {
        arithmetic();
        joining();
        ordering();
        equality();
        lazy();
        branches();
        localSorts();
        tags();
        calls();
        getsAndPuts();
        entriesOfKinds();
        errorsChangeNothing();
        made();
        stays();
        Check.end("StatesTest");
    }

    /** What STATE a NODE of main has when main has been run with each pair of numbers. */
    private static void state(String body, int k, int want, long... args) {
        Trees x = Check.loaded(100, "function main(a,b){" + body + "}");
        for (int i = 0; i + 1 < args.length; i += 2) {
            x.start(args[i], args[i + 1]);
            x.run(20001);
        }
        Check.due("state of node " + k + " of " + body, x.node(4, k, 2), want);
    }

    private static void arithmetic() {
        state("a+b;", 2, 0);
        state("a+b;", 2, 1, 1, 2);
        state("a+b;", 2, 2, 1, Long.MAX_VALUE);
        state("a+b;", 2, 2, 1, 2, 1, Long.MAX_VALUE);
        state("a+b;", 2, 2, 1, Long.MAX_VALUE, 1, 2);
        state("a-b;", 2, 2, 0, Long.MIN_VALUE);
        state("a-b;", 2, 1, -1, Long.MIN_VALUE);
        state("a*b;", 2, 1, Long.MIN_VALUE, 1);
        state("a*b;", 2, 2, Long.MIN_VALUE, -1);
        state("a*b;", 2, 2, -1, Long.MIN_VALUE);
        state("a*b;", 2, 1, 0, Long.MIN_VALUE);
        state("a*b;", 2, 2, 1L << 32, 1L << 31);
        state("a/b;", 2, 1, Long.MIN_VALUE, 2);
        state("a/b;", 2, 2, Long.MIN_VALUE, -1);
        state("9223372036854775808+1;", 2, 2, 0, 0);
        state("9223372036854775807-1;", 2, 1, 0, 0);
        // What is BIG stays BIG, however small it is.
        state("x=9223372036854775808;y=x-x;y+1;", 8, 2, 0, 0);
    }

    private static void joining() {
        String body = "if(b==0){x=\"s\";}else{x=a;}x+a;";
        // 0, 1 PARAM, 2 IF, 3 ==, 4, 5, 6 WRITE, 7, 8 WRITE, 9, 10 +
        state(body, 10, 4, 1, 0);
        state(body, 10, 5, 1, 0, 1, 1);
        state(body, 10, 5, 1, 1, 1, 0);
        state(body, 10, 6, 1, 1, 1, 0, Long.MAX_VALUE, 1);
        state(body, 10, 6, Long.MAX_VALUE, 1, 1, 0);
    }

    private static void ordering() {
        state("a<b;", 2, 1, 1, 2);
        state("a<=9223372036854775808;", 2, 2, 1, 2);
        String body = "if(b==0){x=9223372036854775808;}else{x=a;}x>=a;";
        state(body, 10, 2, 1, 0);
        state(body, 10, 1, 1, 1);
        state(body, 10, 2, 1, 1, 1, 0);
        state(body, 10, 2, 1, 0, 1, 1);
    }

    private static void equality() {
        state("a==b;", 2, 1, 1, 2);
        state("a!=9223372036854775808;", 2, 8, 1, 2);
        state("true==false;", 2, 2, 0, 0);
        state("\"a\"!=\"b\";", 2, 4, 0, 0);
        state("null==null;", 2, 8, 0, 0);
        state("a==null;", 2, 8, 0, 0);
        String body = "x=a;if(b==1){x=true;}if(b==2){x=\"s\";}if(b==3){x=null;}x==x;";
        // 2 WRITE, 3, 4 IF .. 9, 10 IF .. 15, 16 IF ..
        Trees x = Check.loaded(100, "function main(a,b){" + body + "}");
        int[] wanted = {1, 3, 7, 8};
        for (int b = 0; b < 4; b++) {
            x.start(5, b);
            x.run(20001);
            Check.due("state by " + b, x.node(4, 22, 2), wanted[b]);
            Check.due("changes by " + b, x.node(4, 22, 3), b + 1);
        }
        x.start(5, 0);
        x.run(20001);
        Check.due("8 stays", x.node(4, 22, 2), 8);
        Check.due("no change", x.node(4, 22, 3), 4);
        state(body, 22, 8, 5, 3, 5, 0);
    }

    private static void lazy() {
        state("a==1&&true;", 2, 1, 1, 0);
        state("a==1&&true;", 2, 2, 0, 0);
        state("a==1&&true;", 2, 3, 0, 0, 1, 0);
        state("a==1||true;", 2, 2, 1, 0);
        state("a==1||true;", 2, 1, 0, 0);
        // What the right side comes to is behind the change, what the left side comes to is not.
        state("true&&1;", 2, 1, 0, 0);
        state("1&&true;", 2, 0, 0, 0);
    }

    private static void branches() {
        state("if(a==1){}", 2, 1, 1, 0);
        state("if(a==1){}", 2, 2, 0, 0);
        state("if(a==1){}", 2, 3, 0, 0, 1, 0);
        state("while(a==1){break;}", 2, 1, 1, 0);
        state("while(a==1){a=2;}", 2, 3, 1, 0);
        state("while(a==1){a=2;}", 2, 2, 0, 0);
        state("if(1){}", 2, 0, 0, 0);
        state("!true;", 2, 0, 0, 0);
    }

    private static void localSorts() {
        Trees x = Check.loaded(100, "function main(a,b){x=a;y=true;z=null;x=1;if(b==1){x=true;}if(b==2){y=false;}x=2;}");
        Check.due("sort of a local without any", x.root(4, 10), 0);
        x.start(1, 0);
        x.run(100);
        Check.due("locals", x.root(4, 1), 5);
        int[] sorts = {1, 1, 1, 2, 3};
        for (int i = 0; i < 5; i++) {
            Check.due("sort " + i, x.root(4, 10 + i), sorts[i]);
        }
        Check.due("no such local", x.root(4, 15), NONE);
        Check.due("no such local", x.root(4, 21), NONE);
        Check.due("param", x.node(4, 0, 2), 1);
        Check.due("write of a long", x.node(4, 2, 2), 1);
        Check.due("write of a truth", x.node(4, 4, 2), 2);
        Check.due("write of null", x.node(4, 6, 2), 4);
        // The truth makes the SORT 3: bit 1 of the other WRITES fits no more.
        x.start(1, 1);
        x.run(7);
        Check.due("sort", x.root(4, 12), 3);
        Check.due("the write of a truth", x.node(4, 14, 2), 4);
        Check.due("the first write is as it was", x.node(4, 2, 2), 1);
        x.run(100);
        Check.due("the last write", x.node(4, 22, 2), 4);
        Check.due("its changes", x.node(4, 22, 3), 2);
        x.start(1, 2);
        x.run(100);
        Check.due("the first write", x.node(4, 2, 2), 4);
        Check.due("the second write of y", x.node(4, 20, 2), 2);
        x = Check.loaded(100, "function main(){x=9223372036854775808;f(true);f(false);}function f(p,q){}");
        x.start(0, 0);
        x.run(100);
        Check.due("a big number is any", x.root(4, 10), 3);
        Check.due("a truth as an arg", x.root(5, 10), 2);
        Check.due("a missing arg", x.root(5, 11), 3);
        Check.due("state of its param", x.node(5, 1, 2), 4);
        Check.due("changes of its param", x.node(5, 1, 3), 1);
    }

    private static void tags() {
        Trees x = Check.loaded(100, "function main(a,b){x=a;y=true;f();x;y;z;z=1;f();z;f();}function f(){1;}");
        x.start(1, 2);
        int[] first = {1, 1, 3, 3, 3};
        for (int i = 0; i < 5; i++) {
            Check.due("tag " + i, x.frame(0, 10 + i), first[i]);
        }
        Check.due("no such local", x.frame(0, 15), NONE);
        x.run(3);
        Check.due("in f", x.frame(0, 0), 5);
        Check.due("f has no locals", x.frame(0, 10), NONE);
        Check.due("tag of x", x.frame(1, 12), 1);
        Check.due("tag of y", x.frame(1, 13), 2);
        Check.due("tag of z", x.frame(1, 14), 3);
        Check.due("no such activation", x.frame(2, 0), NONE);
        Check.due("no such activation", x.frame(-1, 0), NONE);
        Check.due("no such what", x.frame(0, 4), NONE);
        Check.due("no such what", x.frame(0, 9), NONE);
        Check.due("no such what", x.frame(0, 22), NONE);
        x.run(6);
        // x by bit 1, y by 2, z by 4: nodes 2 WRITE 3, 4 WRITE 5, 6 CALL 7, 8 x, 9 y, 10 z, 11 WRITE 12, 13 CALL, 15 z
        Check.due("read of x", x.node(4, 8, 2), 1);
        Check.due("read of y", x.node(4, 9, 2), 2);
        Check.due("read of z", x.node(4, 10, 2), 4);
        // z=1 comes behind: its SORT is still 0.
        Check.due("tag of z", x.frame(1, 14), 1);
        Check.due("sort of z", x.root(4, 14), 1);
        x.run(2);
        Check.due("the second read of z", x.node(4, 15, 2), 1);
        // By STATE 4 the TAG becomes 3.
        x = Check.loaded(100, "function main(a,b){i=0;while(true){x;x=1;i=i+1;}}");
        x.start(0, 0);
        x.run(5);
        Check.due("tag by the write", x.frame(0, 13), 1);
        x.run(2);
        Check.due("tag by the read with state 4", x.frame(0, 13), 3);
        Check.due("its changes", x.node(4, 6, 3), 1);
        // Both bits of one READ.
        x = Check.loaded(100, "function main(a,b){x=1;y=true;f(1);f(true);}function f(p){if(kind(p)==\"truth\"){p=1;}}");
        x.start(0, 0);
        x.run(100);
        Check.due("the param is any", x.node(5, 0, 2), 4);
    }

    private static void calls() {
        Trees x = Check.loaded(100, "function main(a,b){f=g;if(a==1){f=h;}if(a==2){f=k;}f();}"
                + "function g(){}function h(){}function k(){}");
        // 2 WRITE 3, 4 IF 5 6 7 8 9, 10 IF 11 12 13 14 15, 16 CALL 17
        entries(x, 16, 0, NONE, NONE);
        x.start(0, 0);
        x.run(100);
        entries(x, 16, 1, 5, NONE);
        x.start(1, 0);
        x.run(100);
        entries(x, 16, 2, 5, 6);
        x.start(0, 0);
        x.run(100);
        entries(x, 16, 2, 5, 6);
        Check.due("changes", x.node(4, 16, 3), 2);
        Check.due("not open", x.node(4, 16, 2), 0);
        x.start(2, 0);
        x.run(100);
        entries(x, 16, 0, NONE, NONE);
        Check.due("open", x.node(4, 16, 2), 1);
        Check.due("changes", x.node(4, 16, 3), 3);
        x.start(0, 0);
        x.run(100);
        Check.due("open for good", x.node(4, 16, 3), 3);
        // An ENTRY that is STALE goes.
        x = Check.loaded(100, "function main(a,b){if(a==1){define(\"function g(){}\");}g();}function g(){}");
        // 2 IF 3 4 5 6 CALL 7 8, 9 CALL 10
        x.start(0, 0);
        x.run(100);
        entries(x, 9, 1, 5, NONE);
        x.start(1, 0);
        x.run(100);
        entries(x, 9, 1, 6, NONE);
        entries(x, 6, 1, 3, NONE);
        Check.due("one change for both", x.node(4, 9, 3), 2);
        // Those that stay go up.
        x = Check.loaded(100, "function main(a,b){if(a==1){define(\"function g(){}\");}f=g;if(b==1){f=h;}f();}"
                + "function g(){}function h(){}");
        // 2 IF 3 4 5 6 CALL 7 8, 9 WRITE 10, 11 IF 12 13 14 15 WRITE 16, 17 CALL
        x.start(0, 0);
        x.run(100);
        x.start(0, 1);
        x.run(100);
        entries(x, 17, 2, 5, 6);
        x.start(1, 1);
        x.run(100);
        entries(x, 17, 1, 6, NONE);
        Check.due("changes", x.node(4, 17, 3), 3);
        x.start(0, 0);
        x.run(100);
        entries(x, 17, 2, 6, 7);
        Check.due("shape behind, of a call", x.node(4, 17, 8), NONE);
    }

    private static void entries(Trees x, int k, int count, int first, int second) {
        Check.due("entries of " + k, x.node(4, k, 4), count);
        Check.due("first entry of " + k, x.node(4, k, 5), first);
        Check.due("second entry of " + k, x.node(4, k, 6), second);
    }

    private static void getsAndPuts() {
        Trees x = Check.loaded(100, "function main(a,b){o=new();if(a>0){o.x=1;}if(a>1){o.y=1;}if(a>2){o.z=1;}"
                + "o.p=a;return o.p;}");
        // 2 WRITE 3 4, 5 IF 6 7 8 9 PUT 10 11, 12 IF .. 18, 19 IF .. 25, 26 PUT 27 28, 29 RETURN 30 GET 31
        for (int a = 0; a < 3; a++) {
            x.start(a, 0);
            x.run(100);
        }
        // Shapes: 1 p; 2 x, 3 xp; 4 xy, 5 xyp
        entries3(x, 26, new int[] {0, 2, 4}, new int[] {1, 3, 5});
        entries3(x, 30, new int[] {1, 3, 5}, new int[] {NONE, NONE, NONE});
        Check.due("changes of the put", x.node(4, 26, 3), 3);
        x.start(3, 0);
        x.run(100);
        Check.due("open put", x.node(4, 26, 2), 1);
        Check.due("open get", x.node(4, 30, 2), 1);
        entries3(x, 26, new int[] {NONE, NONE, NONE}, new int[] {NONE, NONE, NONE});
        Check.due("no entries", x.node(4, 30, 4), 0);
        // Another STRING is another ENTRY, of the same SHAPE too.
        x = Check.loaded(100, "function main(a,b){o=new();o.p=1;o.q=1;i=0;while(i<6){if(i/2*2==i){k=\"p\";}else{k=\"q\";}"
                + "o[k]=o[k];i=i+1;}}");
        x.start(0, 0);
        x.run(100);
        // 2 o, 5 PUT, 8 PUT, 11 i, 13 WHILE 14 15 16, 17 IF 18 19 20 21 22 23 24, 25 k 26, 27 k 28, 29 PUT, 32 GET
        entries3(x, 29, new int[] {2, 2, NONE}, new int[] {2, 2, NONE});
        entries3(x, 32, new int[] {2, 2, NONE}, new int[] {NONE, NONE, NONE});
        Check.due("changes of the put", x.node(4, 29, 3), 2);
        Check.due("changes of the get", x.node(4, 32, 3), 2);
    }

    /** GET, PUT and CALL alone have ENTRIES, none at first; of all other KINDS there is no count of them. */
    private static void entriesOfKinds() {
        String text = "function main(a,b){i=0;o=new();o.p=\"s\";t=true;f=kind;f(null);"
                + "while(i<2){i=i+1*2/1-1;if(i<=1&&1>=i||i>1){o.p;continue;}break;}"
                + "if(!(i==1)){i!=2;}return o[\"p\"];}";
        Trees x = Check.loaded(100, text);
        int nodes = x.root(4, 0);
        boolean[] seen = new boolean[29];
        for (int k = 0; k < nodes; k++) {
            int kind = x.node(4, k, 0);
            seen[kind] = true;
            Check.due("entries at first, kind " + kind, x.node(4, k, 4), kind >= 21 && kind <= 23 ? 0 : NONE);
        }
        for (int kind = 0; kind < 29; kind++) {
            Check.due("kind " + kind + " is there", seen[kind], true);
        }
        x = Check.loaded(100, text);
        x.start(0, 0);
        x.run(100);
        Check.due("it ended", x.state(), 2);
        for (int k = 0; k < nodes; k++) {
            int kind = x.node(4, k, 0);
            Check.due("entries then, kind " + kind, x.node(4, k, 4), kind >= 21 && kind <= 23 ? 1 : NONE);
            for (int what = 5; what < 11 && (kind < 21 || kind > 23); what++) {
                Check.due("what " + what + " of kind " + kind, x.node(4, k, what), NONE);
            }
        }
    }

    private static void entries3(Trees x, int k, int[] ahead, int[] behind) {
        for (int i = 0; i < 3; i++) {
            Check.due("entry " + i + " of " + k, x.node(4, k, 5 + i), ahead[i]);
            Check.due("entry " + i + " of " + k + " behind", x.node(4, k, 8 + i), behind[i]);
        }
    }

    private static void errorsChangeNothing() {
        state("a/b;", 2, 0, 1, 0);
        state("a+null;", 2, 0, 1, 0);
        state("999999999999999999999999999999999999+a;", 2, 0, 1, 0);
        state("a<null;", 2, 0, 1, 0);
        Trees x = Check.ran("function main(a,b){o=new();o.p=1;o.q;}");
        Check.due("get of what is not there", x.node(4, 8, 4), 0);
        x = Check.ran("function main(a,b){g();}");
        Check.due("call of what is not defined", x.node(4, 2, 4), 0);
        x = Check.ran("function main(a,b){main(a,b);}");
        Check.due("error", Check.outcome(x), "E7@2");
        Check.due("one entry by the calls that were", x.node(4, 2, 3), 1);
        // What the FUNCTION comes to is behind the change of the CALL.
        x = Check.ran("function main(a,b){define(1);}");
        Check.due("call of define with its error", x.node(4, 2, 4), 1);
    }

    private static void made() {
        // 4 for each number that is BIG: 25,000 of them.
        Trees x = Check.loaded(100, "function main(a,b){x=100000000000000000000;i=0;while(i<b){" + plus(25)
                + "i=i+1;}if(a==1){x+0;}return 1;}");
        x.start(0, 1000);
        x.run(20001);
        Check.due("all of it", Check.outcome(x), "1");
        x.start(1, 1000);
        x.run(20001);
        Check.due("one more", x.error(0), 9);
        x.start(0, 1000);
        x.run(20001);
        Check.due("a new run has all of it again", Check.outcome(x), "1");
        // 8 comes ahead of 9.
        x = Check.loaded(100, "function main(a,b){x=100000000000000000000;i=0;while(i<1000){" + plus(25)
                + "i=i+1;}x*x;}");
        x.start(0, 0);
        x.run(20001);
        Check.due("too great", x.error(0), 8);
        // A STRING of 99 letters is 100.
        String hundred = "function main(a,b){s=\"0123456789012345678901234567890123456789\";t=s+s;i=0;"
                + "while(i<b){t+\"012345678\";t+\"0123456789012345678\";i=i+1;}%return i;}";
        x = Check.loaded(100, hundred.replace("%", ""));
        // 81 of t, then 90 + 100 each time.
        x.start(0, 525);
        x.run(20001);
        Check.due("99,831 cells", Check.outcome(x), "525");
        x.start(0, 526);
        x.run(20001);
        Check.due("the second string of the last time", x.error(0), 9);
        x = Check.loaded(100, hundred.replace("%", "t+s;\"0123456\"+\"\";t+\"\";"));
        // 121, 8: 99,960 cells; 81 more are too many.
        x.start(0, 525);
        x.run(20001);
        Check.due("strings of texts are not made", x.error(0), 9);
        Check.due("nor are those of kind", Check.outcome(Check.ran(
                "function main(){i=0;while(i<4000){kind(i)==kind(2)&&kind(i)==kind(1);i=i+1;}return i;}")), "4000");
    }

    private static String plus(int times) {
        StringBuilder all = new StringBuilder("x");
        for (int i = 0; i < times; i++) {
            all.append("+0");
        }
        return all.append(';').toString();
    }

    private static void stays() {
        Trees x = Check.loaded(100, "function main(a,b){return a+b;}");
        x.start(1, 2);
        x.run(9);
        int changes = x.total(9);
        Check.due("changes: two params, +, two reads", changes, 5);
        Check.due("changes of the root", x.root(4, 7), 5);
        x.start(3, 4);
        x.run(9);
        Check.due("nothing changes", x.total(9), changes);
        Check.due("state stays", x.node(4, 3, 2), 1);
        Check.due("calls", x.total(14), 2);
        Check.due("node what 12", x.node(4, 3, 12), NONE);
        Check.due("node what -1", x.node(4, 3, -1), NONE);
        Check.due("node -1", x.node(4, -1, 0), NONE);
        Check.due("node of root 5", x.node(5, 0, 0), NONE);
        Check.due("node of root 0", x.node(0, 0, 0), NONE);
        Check.due("node of root -1", x.node(-1, 0, 0), NONE);
        Check.due("node extremes", x.node(Integer.MAX_VALUE, Integer.MIN_VALUE, Integer.MIN_VALUE), NONE);
    }
}
