/** HEAT, the QUEUE, CODES, FRAMES: promises 1, 11, 12, 15, 16 and 17. */
final class CodesTest {
    private static final int NONE = GraftTrees.NONE;

    public static void main(String[] args) {
        thresholds();
        heatAndQueue();
        notNewestInQueue();
        eightCodes();
        hundredCodes();
        guards();
        units();
        unitLimits();
        entering();
        enteringInLoop();
        exitByParam();
        exitOfInlined();
        inlining();
        fallByDefine();
        fallByShape();
        inlinedInCodeThatEnded();
        codesThatStay();
        endOfSeveral();
        ownFunctionDefined();
        Check.end("CodesTest");
    }

    private static void runAll(Trees x, long a, long b) {
        x.start(a, b);
        x.run(20001);
    }

    private static void thresholds() {
        int[] given = {Integer.MIN_VALUE, 0, 1, 3, 100, 101, Integer.MAX_VALUE};
        int[] wanted = {1, 1, 1, 3, 100, 100, 100};
        for (int i = 0; i < given.length; i++) {
            Trees x = Check.loaded(given[i], "function main(){}");
            int starts = 0;
            while (x.total(8) == 0 && starts < 200) {
                x.start(0, 0);
                starts++;
            }
            Check.due("starts until main is in the queue, by " + given[i], starts, wanted[i]);
        }
    }

    private static void heatAndQueue() {
        Trees x = Check.loaded(3, "function main(a,b){i=0;while(i<a){f(i);i=i+1;}}function f(x){}");
        Check.due("compile", x.compile(), NONE);
        runAll(x, 2, 0);
        // main 1 and twice E again; f two calls
        Check.due("heat of main", x.root(4, 2), 3);
        Check.due("heat of f", x.root(5, 2), 2);
        Check.due("place of main", x.root(4, 5), 0);
        Check.due("place of f", x.root(5, 5), NONE);
        Check.due("heat of print", x.root(0, 2), 0);
        runAll(x, 1, 0);
        Check.due("place of f", x.root(5, 5), 1);
        Check.due("in the queue", x.total(8), 2);
        runAll(x, 1, 0);
        Check.due("each is there once", x.total(8), 2);
        Check.due("heat grows on", x.root(4, 2), 7);
        Check.due("compile", x.compile(), 4);
        Check.due("the next place", x.root(5, 5), 0);
        Check.due("in the queue", x.total(8), 1);
        Check.due("valid code of main", x.root(4, 3), 0);
        Check.due("codes it had", x.root(4, 4), 1);
        Check.due("valid code of f", x.root(5, 3), NONE);
        Check.due("codes", x.total(7), 1);
        Check.due("compile", x.compile(), 5);
        Check.due("compile", x.compile(), NONE);
        // In its CODE main grows by the ACTIVATION alone.
        runAll(x, 5, 0);
        Check.due("heat of main", x.root(4, 2), 8);
        Check.due("not in the queue with a valid code", x.total(8), 0);
        Check.due("name", x.root(5, 30), 'f');
        Check.due("behind the name", x.root(5, 31), NONE);
        Check.due("root what 8", x.root(4, 8), NONE);
        Check.due("root what 9", x.root(4, 9), NONE);
        Check.due("root what 22", x.root(4, 22), NONE);
        Check.due("root what 29", x.root(4, 29), NONE);
        Check.due("root what -1", x.root(4, -1), NONE);
        Check.due("root 6", x.root(6, 0), NONE);
        Check.due("root -1", x.root(-1, 0), NONE);
        Check.due("extremes", x.root(0, Integer.MIN_VALUE), NONE);
    }

    private static void notNewestInQueue() {
        Trees x = Check.loaded(1, "function main(a,b){f();if(a==1){define(\"function f(){}\");}}function f(){}");
        runAll(x, 0, 0);
        runAll(x, 1, 0);
        Check.due("queue", x.total(8), 2);
        Check.due("place of the old f", x.root(5, 5), 1);
        Check.due("the newest", x.root(5, 6), 0);
        Check.due("compile", x.compile(), 4);
        Check.due("the old f is taken for good", x.compile(), NONE);
        Check.due("queue", x.total(8), 0);
        // It heats on, but is queued no more.
        x = Check.loaded(1, "function main(a,b){define(\"function main(){}\");i=0;while(i<3){i=i+1;}}");
        x.start(0, 0);
        Check.due("compile", x.compile(), 4);
        x.run(20001);
        Check.due("heat from the end of its code on", x.root(4, 2), 3);
        Check.due("queue", x.total(8), 0);
    }

    private static void eightCodes() {
        // The first RUN ends main's CODE, as f is DEFINED again, the second one queues main again.
        Trees x = Check.loaded(1, "function main(a,b){define(\"function f(){}\");f();}");
        for (int i = 1; i <= 8; i++) {
            runAll(x, 0, 0);
            runAll(x, 0, 0);
            Check.due("in the queue", x.root(4, 5) != NONE, true);
            compileAll(x);
            Check.due("valid code", x.root(4, 3) != NONE, true);
            Check.due("codes it had", x.root(4, 4), i);
        }
        runAll(x, 0, 0);
        runAll(x, 0, 0);
        Check.due("ended", x.root(4, 3), NONE);
        Check.due("not in the queue any more", x.root(4, 5), NONE);
        Check.due("heat grows on", x.root(4, 2), 1);
    }

    private static void compileAll(Trees x) {
        int made = x.compile();
        while (made != NONE) {
            made = x.compile();
        }
    }

    private static void hundredCodes() {
        // Thirteen FUNCTIONS whose CALL of g changes each time that g is DEFINED.
        StringBuilder text = new StringBuilder("function main(a,b){define(\"function g(){}\");");
        for (int i = 0; i < 13; i++) {
            text.append("f").append((char) ('a' + i)).append("();");
        }
        text.append('}');
        for (int i = 0; i < 13; i++) {
            text.append("function f").append((char) ('a' + i)).append("(){g();}");
        }
        Trees x = Check.loaded(1, text.toString());
        int made = 0;
        for (int i = 0; i < 8; i++) {
            x.start(0, 0);
            x.run(20001);
            for (int j = 0; j < 15 && made < 100; j++) {
                made += x.compile() == NONE ? 0 : 1;
            }
        }
        Check.due("codes", made, 100);
        Check.due("total", x.total(7), 100);
        int queued = x.total(8);
        Check.due("some wait", queued > 0, true);
        Check.due("none more", x.compile(), NONE);
        Check.due("the queue stays", x.total(8), queued);
    }

    private static int guardsOf(String text, long a, long b, int root) {
        Trees x = Check.loaded(1, text);
        x.start(a, b);
        x.run(20001);
        for (int i = 0; i < 9; i++) {
            if (x.compile() == root) {
                return x.code(i, 4);
            }
        }
        return NONE;
    }

    private static void guards() {
        // Not worked out yet: both params have.
        Check.due("params of longs", guardsOf("function main(a,b){}", 1, 2, 4), 2);
        Check.due("params of any", guardsOf("function main(a,b,c,d){}", 1, 2, 4), 2);
        // READ 1 each, + none as both are SURE, RETURN none
        Check.due("sure sides", guardsOf("function main(a,b){return a+b*2;}", 1, 2, 4), 4);
        Check.due("a big result", guardsOf("function main(a,b){return a+b;}", 1, Long.MAX_VALUE, 4), 5);
        Check.due("sides that are not sure", guardsOf("function main(a,b){return f()<f();}function f(){return 1;}",
                1, 2, 4), 2 + 2 + 2);
        Check.due("the right side is not sure", guardsOf("function main(){1<f();}function f(){return 1;}", 0, 0, 4), 2);
        Check.due("the left side is not sure", guardsOf("function main(){f()<1;}function f(){return 1;}", 0, 0, 4), 2);
        Check.due("a big number is not sure", guardsOf("function main(){1==1;9223372036854775808==1;}", 0, 0, 4), 1);
        Check.due("state 0", guardsOf("function main(){return 1;1+1;x;x=1;true&&true;if(true){}while(false){}f();x.y;}",
                0, 0, 4), 9);
        Check.due("truths", guardsOf("function main(){i=0;while(i<2){i==0&&true;if(i==0){}i=i+1;}}", 0, 0, 4),
                // i=0 none; < none, its READ 1; && 3, == none, READ 1; IF 3, READ 1; READ 1
                4);
        Check.due("write", guardsOf("function main(){x=1;y=true;z=null;w=f();v=x=1;}function f(){return 1;}", 0, 0, 4),
                // x none, y 1, z none, w 1, its CALL 1, v 1, x none
                4);
        Check.due("get and put", guardsOf("function main(){o=new();o.p=1;o.p=o.p;ghost;}", 0, 0, 4), 1 + 1 + 1 + 1);
        Check.due("two entries", guardsOf("function main(){i=0;f=g;while(i<2){f();f=h;i=i+1;}}function g(){}function h(){}",
                0, 0, 4),
                // f() is READ with 4: none; CALL 2; WHILE 3 none; READS of i: 2
                4);
        Check.due("an open one", guardsOf("function main(){i=0;f=g;while(i<3){f();if(i==0){f=h;}else{f=k;}i=i+1;}}"
                + "function g(){}function h(){}function k(){}", 0, 0, 4), 1 + 3);
    }

    private static void units() {
        Trees x = Check.loaded(1, "function main(a,b){f();g();f();}function f(){g();}function g(){h();}"
                + "function h(){k();}function k(){}");
        runAll(x, 0, 0);
        Check.due("compile", x.compile(), 4);
        // main; f, g, f; g of f, h of g, g of f; no h of those: they lie in three.
        int[] roots = {4, 5, 6, 5, 6, 7, 6};
        Check.due("units", x.code(0, 2), 7);
        for (int i = 0; i < 7; i++) {
            Check.due("unit " + i, x.code(0, 10 + i), roots[i]);
        }
        Check.due("no more", x.code(0, 17), NONE);
        Check.due("nodes", x.code(0, 3), 2 + 6 + 2 * 6);
        Check.due("root", x.code(0, 0), 4);
        Check.due("valid", x.code(0, 1), 1);
        Check.due("what 8", x.code(0, 8), NONE);
        Check.due("what 9", x.code(0, 9), NONE);
        Check.due("what -1", x.code(0, -1), NONE);
        Check.due("code 1", x.code(1, 0), NONE);
        Check.due("code -1", x.code(-1, 0), NONE);
        Check.due("extremes", x.code(Integer.MAX_VALUE, Integer.MIN_VALUE), NONE);
        Check.due("extremes", x.code(0, Integer.MAX_VALUE), NONE);
    }

    private static String calls(String call, int times) {
        StringBuilder all = new StringBuilder();
        for (int i = 0; i < times; i++) {
            all.append(call);
        }
        return all.toString();
    }

    private static void unitLimits() {
        // A ROOT that lies in itself is not INLINED, nor one that was never called, nor print.
        Trees x = Check.loaded(1, "function main(a,b){f(2);print(1);if(a==9){g();}}"
                + "function f(n){if(n>0){h(n);}}function h(n){f(n-1);}function g(){}");
        runAll(x, 0, 0);
        Check.due("compile", x.compile(), 4);
        Check.due("main, f, h", x.code(0, 2), 3);
        // main has 2 + 2 * 74 NODES, all its CALLS come to FUNCTIONS without NODES.
        x = Check.loaded(1, "function main(a,b){" + calls("f();", 74) + "}function f(){}");
        runAll(x, 0, 0);
        x.compile();
        Check.due("units", x.code(0, 2), 75);
        Check.due("nodes", x.code(0, 3), 150);
        x = Check.loaded(1, "function main(a,b){" + calls("f();", 74) + "1;}function f(){}");
        runAll(x, 0, 0);
        x.compile();
        Check.due("151 nodes: none", x.code(0, 2), 1);
        Check.due("nodes", x.code(0, 3), 151);
        // 2 + 2 * 70 = 142 NODES: f with 5 fits once, then g with 3 does.
        x = Check.loaded(1, "function main(a,b){" + calls("f();", 69) + "g();}function f(){1;2;3;4;5;}function g(){1;2;3;}");
        runAll(x, 0, 0);
        x.compile();
        Check.due("units", x.code(0, 2), 3);
        Check.due("nodes", x.code(0, 3), 150);
        Check.due("the first f", x.code(0, 11), 5);
        Check.due("g in spite of the f that did not fit", x.code(0, 12), 6);
        // The first ROOT that is told may be INLINED as any other.
        x = Check.loaded(1, "function f(){1;}function main(a,b){f();}");
        runAll(x, 0, 0);
        Check.due("compile", x.compile(), 5);
        Check.due("units", x.code(0, 2), 2);
        Check.due("f", x.code(0, 11), 4);
        // With two ENTRIES none.
        x = Check.loaded(1, "function main(a,b){h=f;if(a==1){h=g;}h();}function f(){}function g(){}");
        runAll(x, 0, 0);
        runAll(x, 1, 0);
        x.compile();
        Check.due("units", x.code(0, 2), 1);
    }

    private static void entering() {
        Trees x = Check.loaded(1, "function main(a,b){f(a);}function f(n){n+1;}");
        runAll(x, 1, 0);
        // Node 0 of f stays as it is, so both CODES stay VALID.
        Check.due("compile main", x.compile(), 4);
        Check.due("compile f", x.compile(), 5);
        x.start(2, 0);
        Check.due("entered", x.code(0, 5), 1);
        Check.due("code of main", x.frame(0, 1), 0);
        Check.due("unit of main", x.frame(0, 2), 0);
        Check.due("not inlined", x.frame(0, 3), 0);
        x.run(1);
        Check.due("f is inlined", x.frame(0, 3), 1);
        Check.due("in main's code", x.frame(0, 1), 0);
        Check.due("in unit 1", x.frame(0, 2), 1);
        Check.due("root", x.frame(0, 0), 5);
        Check.due("the heat of f stays", x.root(5, 2), 1);
        Check.due("inlined ones", x.total(15), 1);
        Check.due("f's code is not entered", x.code(1, 5), 0);
        x.run(100);
        Check.due("entered in all", x.total(10), 1);
        Check.due("calls", x.total(14), 4);
        Check.due("no exits", x.total(11), 0);
        Check.due("no falls", x.total(12), 0);
        Check.due("result", Check.result(x), "null");
    }

    private static void enteringInLoop() {
        Trees x = Check.loaded(1, "function main(a,b){i=0;while(i<a){i=i+1;}return i;}");
        x.start(5, 0);
        x.run(3);
        Check.due("compile while it runs", x.compile(), 4);
        Check.due("not in the code yet", x.frame(0, 1), NONE);
        Check.due("no unit", x.frame(0, 2), NONE);
        x.run(1);
        Check.due("in the code as E is come to again", x.frame(0, 1), 0);
        Check.due("heat", x.root(4, 2), 2);
        x.run(6);
        Check.due("heat stays in it", x.root(4, 2), 2);
        x.run(100);
        Check.due("result", Check.result(x), "5");
        // The WHILE became false: a CHANGE in the CODE, an EXIT.
        Check.due("exits", x.code(0, 6), 1);
        Check.due("exits in all", x.total(11), 1);
        Check.due("valid no more", x.code(0, 1), 0);
        Check.due("no valid code", x.root(4, 3), NONE);
        Check.due("heat", x.root(4, 2), 0);
        Check.due("no falls", x.code(0, 7), 0);
        Check.due("entered once", x.code(0, 5), 1);
    }

    private static void exitByParam() {
        Trees x = Check.loaded(1, "function main(a,b){if(a==1){f(true);}else{f(a);}}function f(p){1;}");
        runAll(x, 0, 0);
        Check.due("main", x.compile(), 4);
        Check.due("f", x.compile(), 5);
        x.start(1, 0);
        // IF becomes true: main's EXIT; then f is called from no CODE, its CODE entered, and left by the PARAM.
        x.run(1);
        Check.due("main's exits", x.code(0, 6), 1);
        x.run(1);
        Check.due("f entered", x.code(1, 5), 1);
        Check.due("f's exits", x.code(1, 6), 1);
        Check.due("f's code", x.frame(0, 1), NONE);
        Check.due("valid", x.code(1, 1), 0);
        Check.due("the heat that began is gone", x.root(5, 2), 0);
        Check.due("sort", x.root(5, 10), 3);
        Check.due("tag", x.frame(0, 10), 3);
        Check.due("exits", x.total(11), 2);
    }

    private static void exitOfInlined() {
        Trees x = Check.loaded(1, "function main(a,b){f(a);1;}function f(p){p+1;2;}");
        runAll(x, 0, 0);
        Check.due("main", x.compile(), 4);
        Check.due("f", x.compile(), 5);
        x.start(Long.MAX_VALUE, 0);
        x.run(1);
        Check.due("inlined", x.frame(0, 3), 1);
        x.run(1);
        // The + changes: all of the FRAME is in no CODE, and both CODES end.
        Check.due("inlined no more", x.frame(0, 3), 0);
        Check.due("code", x.frame(0, 1), NONE);
        Check.due("unit", x.frame(0, 2), NONE);
        Check.due("code of the caller", x.frame(1, 1), NONE);
        Check.due("exits of main's code", x.code(0, 6), 1);
        Check.due("exits of f's code", x.code(1, 6), 0);
        Check.due("main's code", x.code(0, 1), 0);
        Check.due("f's code", x.code(1, 1), 0);
        Check.due("heat of main", x.root(4, 2), 0);
        Check.due("heat of f", x.root(5, 2), 0);
        x.run(100);
        Check.due("end", x.state(), 2);
        Check.due("no falls", x.total(12), 0);
    }

    private static void inlining() {
        // A CALL that changes leaves the FRAME first: what it calls is not INLINED.
        Trees x = Check.loaded(1, "function main(a,b){g=f;if(a==1){g=h;}g();}function f(){1;}function h(){1;}");
        runAll(x, 0, 0);
        runAll(x, 1, 0);
        Check.due("two entries", x.node(4, 10, 4), 2);
        x = Check.loaded(1, "function main(a,b){define(\"function f(){2;}\");f();}function f(){1;}");
        runAll(x, 0, 0);
        Check.due("main", x.compile(), 4);
        Check.due("units", x.code(0, 2), 2);
        x.start(0, 0);
        Check.due("main in its code", x.frame(0, 1), 0);
        x.run(2);
        Check.due("the new f", x.frame(0, 0), 7);
        Check.due("not inlined", x.frame(0, 3), 0);
        Check.due("the define made main fall", x.total(12), 1);
        Check.due("inlined ones", x.total(15), 0);
    }

    private static void fallByDefine() {
        String text = "function main(a,b){i=0;while(i<9){i=i+1;if(i==2){f();}if(i==a){define(\"function f(){}\");}}}"
                + "function f(){1;}";
        Trees x = Check.loaded(1, text);
        // The first RUN meets both ways of each IF, the second one has the newest f as its ENTRY.
        runAll(x, 3, 0);
        runAll(x, 20, 0);
        Check.due("main", x.compile(), 4);
        Check.due("f is a unit", x.code(0, 11), 6);
        x.start(5, 0);
        // The f that was DEFINED has no STATEMENTS: define is the 23rd STEP.
        x.run(22);
        Check.due("in the code", x.frame(0, 1), 0);
        Check.due("it is valid", x.code(0, 1), 1);
        Check.due("heat", x.root(4, 2) > 0, true);
        x.run(1);
        Check.due("the code has ended", x.code(0, 1), 0);
        Check.due("a fall as define comes back", x.code(0, 7), 1);
        Check.due("falls in all", x.total(12), 1);
        Check.due("in no code", x.frame(0, 1), NONE);
        Check.due("heat", x.root(4, 2), 0);
        Check.due("no exits", x.total(11), 0);
        x.run(1);
        Check.due("heat, as E is come to again", x.root(4, 2), 1);
        Check.due("in the queue again", x.root(4, 5) != NONE, true);
        x.run(20001);
        Check.due("end", x.state(), 2);
    }

    private static void fallByShape() {
        Trees x = Check.loaded(1, "function main(a,b){o=new();o[k(b)]=1;g=other;if(a==1){g=set;}g(o,k(b));1;}"
                + "function k(b){return \"p\"+b;}function set(o,k){o[k]=9223372036854775807+1;3;}"
                + "function other(o,k){4;}");
        // g's CALL has two ENTRIES then, so set is not INLINED; the last RUN takes the STALE ENTRY of the PUT away.
        runAll(x, 0, 9);
        runAll(x, 1, 0);
        runAll(x, 0, 9);
        Check.due("main", x.compile(), 4);
        Check.due("units: main, k, k", x.code(0, 2), 3);
        x.start(1, 9);
        x.run(8);
        Check.due("in set", x.frame(0, 0), 6);
        Check.due("not inlined", x.frame(0, 3), 0);
        Check.due("main in its code", x.frame(1, 1), 0);
        Check.due("valid", x.code(0, 1), 1);
        x.run(1);
        Check.due("the shape of main's entry is obsolete", x.shape(1, 2) != NONE, true);
        Check.due("the code has ended", x.code(0, 1), 0);
        Check.due("main is in it yet", x.frame(1, 1), 0);
        Check.due("no fall yet", x.total(12), 0);
        x.run(1);
        Check.due("set has come back", x.frame(0, 0), 4);
        Check.due("main has fallen", x.frame(0, 1), NONE);
        Check.due("a fall", x.total(12), 1);
        Check.due("of main's code", x.code(0, 7), 1);
        Check.due("no exits", x.total(11), 0);
    }

    private static void inlinedInCodeThatEnded() {
        // x is BIG. The second PUT makes the SHAPE of main's ENTRIES OBSOLETE: its CODE ends, but no NODE changes.
        Trees x = Check.loaded(1, "function main(a,b){x=9223372036854775807+1;o=new();o[k(b)]=1;"
                + "if(a==1){f(o[k(b)]=x);2;}}function f(v){1;3;}function k(b){return \"p\"+b;}");
        runAll(x, 1, 0);
        runAll(x, 0, 1);
        Check.due("main", x.compile(), 4);
        Check.due("units: main, k, f, k", x.code(0, 2), 4);
        x.start(1, 1);
        // x, o, put, k's return, if, put
        x.run(6);
        Check.due("k for the second put", x.frame(0, 0), 6);
        Check.due("inlined", x.frame(0, 3), 1);
        Check.due("valid yet", x.code(0, 1), 1);
        x.run(1);
        Check.due("f", x.frame(0, 0), 5);
        Check.due("the code has ended", x.code(0, 1), 0);
        Check.due("f is inlined in it all the same", x.frame(0, 3), 1);
        Check.due("f's unit", x.frame(0, 2), 2);
        Check.due("no fall yet", x.total(12), 0);
        x.run(1);
        Check.due("a fall, behind the step", x.total(12), 1);
        Check.due("of main's code", x.code(0, 7), 1);
        Check.due("f is inlined no more", x.frame(0, 3), 0);
        Check.due("f is in no code", x.frame(0, 1), NONE);
        Check.due("main is in no code", x.frame(1, 1), NONE);
        Check.due("no exits", x.total(11), 0);
        x.run(20001);
        Check.due("end", x.state(), 2);
        Check.due("falls", x.total(12), 1);
    }

    /** What a CODE does not rest on is no matter to it. */
    private static void codesThatStay() {
        Trees x = Check.loaded(1, "function main(a,b){o=new();o.p=1;f();g();}function f(){1;}"
                + "function g(){define(\"function h(){}\");p=new();p.q=1;p.q=null;}");
        runAll(x, 0, 0);
        Check.due("main", x.compile(), 4);
        Check.due("f", x.compile(), 5);
        x.start(0, 0);
        x.run(20001);
        Check.due("g changed: main has it as a unit", x.code(0, 1), 0);
        Check.due("f's code stays", x.code(1, 1), 1);
        Check.due("heat of f", x.root(5, 2), 1);
        // g's first PUT is OPEN; the SHAPE that its second one makes OBSOLETE is in no ENTRY of main or g.
        x = Check.loaded(1, "function main(a,b){o=new();o.p=1;g(a,b);return o.p;}function g(a,b){p=new();p[\"k\"+b]=1;"
                + "if(a==1){p[\"k\"+b]=9223372036854775807+1;}}");
        for (int b = 0; b < 4; b++) {
            runAll(x, 0, b);
        }
        runAll(x, 1, 9);
        Check.due("main", x.compile(), 4);
        Check.due("g is a unit", x.code(0, 11), 5);
        int shapes = x.total(6);
        runAll(x, 1, 10);
        Check.due("a shape and its heir came", x.total(6), shapes + 2);
        Check.due("main's code stays", x.code(0, 1), 1);
        Check.due("entered", x.code(0, 5), 1);
        x = Check.loaded(1, "function main(a,b){f();if(a==1){define(\"function h(){}\");}2;}function f(){print(1);}");
        runAll(x, 1, 0);
        runAll(x, 0, 0);
        Check.due("main", x.compile(), 4);
        runAll(x, 1, 0);
        Check.due("h is defined again", x.total(5), 8);
        Check.due("main's code stays", x.code(0, 1), 1);
        Check.due("no falls", x.total(12), 0);
    }

    private static void endOfSeveral() {
        // A NODE that is in several CODES ends them all.
        Trees x = Check.loaded(1, "function main(a,b){g(a);}function g(n){return f(n);}function f(n){return n+1;}");
        runAll(x, 1, 0);
        Check.due("main", x.compile(), 4);
        Check.due("g", x.compile(), 5);
        Check.due("f", x.compile(), 6);
        Check.due("units of main", x.code(0, 2), 3);
        Check.due("units of g", x.code(1, 2), 2);
        Check.due("units of f", x.code(2, 2), 1);
        runAll(x, Long.MAX_VALUE, 0);
        for (int c = 0; c < 3; c++) {
            Check.due("valid " + c, x.code(c, 1), 0);
            Check.due("exits of " + c, x.code(c, 6), c == 0 ? 1 : 0);
        }
        Check.due("exits", x.total(11), 1);
        Check.due("result", x.state(), 2);
    }

    private static void ownFunctionDefined() {
        // print is no UNIT, but an ENTRY.
        Trees x = Check.loaded(1, "function main(a,b){print(1);if(a==1){define(\"function print(x){}\");}2;3;}");
        runAll(x, 0, 0);
        runAll(x, 1, 0);
        // Both ways of the IF are met now; print's ENTRY is STALE.
        runAll(x, 0, 0);
        Check.due("main", x.compile(), 4);
        x.start(1, 0);
        x.run(1);
        Check.due("in the code", x.frame(0, 1), 0);
        x.run(1);
        Check.due("valid", x.code(0, 1), 1);
        x.run(1);
        Check.due("valid no more", x.code(0, 1), 0);
        Check.due("a fall as define comes back", x.code(0, 7), 1);
        Check.due("in no code", x.frame(0, 1), NONE);
        x.run(9);
        Check.due("steps", x.total(0), 5);
    }
}
