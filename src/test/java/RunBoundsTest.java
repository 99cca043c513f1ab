/** What a RUN may do at most: STEPS and MADE, each sentence of chapter II in a method of its own. */
final class RunBoundsTest {
    public static void main(String[] args) {
        twentyThousandSteps();
        placeOfStep20001();
        whatIsStep();
        nothingHalfDone();
        madeNumbers();
        madeStrings();
        madeByBoth();
        madeOfEachSign();
        madeBehind8();
        notMade();
        madeOfEachRun();
        Check.end("RunBoundsTest");
    }

    /** "10 as the 20,001st STEP would begin". */
    private static void twentyThousandSteps() {
        // 2 STEPS, 2 for each time, one for the last STATEMENT.
        Trees x = Check.loaded(100, "function main(a,b){i=0;while(i<a){i=i+1;}if(b==1){return i;}}");
        x.start(9998, 1);
        Check.due("20,000", x.run(30000), 20000);
        Check.due("outcome", Check.outcome(x), "9998");
        x.start(9998, 0);
        Check.due("19,999", x.run(20000), 19999);
        Check.due("outcome", Check.outcome(x), "null");
        x.start(9999, 0);
        Check.due("20,000 and one more", x.run(30000), 20000);
        Check.due("outcome", Check.outcome(x), "E10@12");
        Check.due("steps", x.total(0), 20000);
        // It stands ahead of the 20,001st STEP, until that would begin.
        x.start(9999, 0);
        Check.due("20,000", x.run(20000), 20000);
        Check.due("under way", x.state(), 1);
        Check.due("frame", x.frame(0, 0), 4);
        Check.due("one more", x.run(1), 0);
        Check.due("outcome", Check.outcome(x), "E10@12");
        Check.due("steps", x.total(0), 20000);
        // In parts, and of each RUN anew.
        x.start(9998, 1);
        Check.due("part", x.run(19999), 19999);
        Check.due("the last", x.run(5), 1);
        Check.due("outcome", Check.outcome(x), "9998");
    }

    /** "(10: that of the STATEMENT's first NODE, or of the WHILE)". */
    private static void placeOfStep20001() {
        Check.due("a while's e", Check.outcome(Check.ran("function main(){while(true){}}")), "E10@0");
        Check.due("a while", Check.outcome(Check.ran("function main(){8;9;while(true){1;while(1+1==3){}2;}}")), "E10@5");
        Check.due("an expression", Check.outcome(Check.ran("function main(){1;while(true){1+2*3;}}")), "E10@3");
        Check.due("a put", Check.outcome(Check.ran("function main(){o=new();while(true){o.p=1;}}")), "E10@5");
        Check.due("an if", Check.outcome(Check.ran("function main(){1;while(true){if(false){}}}")), "E10@3");
        Check.due("a continue", Check.outcome(Check.ran("function main(){1;while(true){continue;}}")), "E10@3");
        Check.due("a return", Check.outcome(Check.ran("function main(){8;while(true){f();}}function f(){2;return 1;}")),
                "E10@1");
        Trees x = Check.ran("function main(){while(true){f();}}function f(){1;2;return 1;}");
        Check.due("the root where it came", x.error(1), 4);
        x = Check.ran("function main(){1;while(true){f();}}function f(){1;2;return 1;}");
        Check.due("the root where it came", x.error(1), 5);
        Check.due("the node", x.error(2), 2);
    }

    /** "A STEP is a STATEMENT that begins, and each time but the first that a WHILE's E is come to." */
    private static void whatIsStep() {
        steps("", 0);
        steps("1;", 1);
        steps("if(true){}", 1);
        steps("if(true){1;2;}else{3;}", 3);
        steps("while(false){}", 1);
        steps("while(true){break;}", 2);
        steps("i=0;while(i<1){i=i+1;}", 4);
        steps("i=0;while(i<1){i=i+1;continue;}", 5);
        steps("return;1;", 1);
        steps("f(1,2,3);", 3);
        steps("f(f(1));", 5);
        steps("i=0;while(i<2){i=i+1;j=0;while(j<1){j=j+1;}}", 2 + 2 * 5 + 2);
        steps("while(f(2)==null){return 1;}", 4);
    }

    private static void steps(String body, int want) {
        Trees x = Check.ran("function main(a,b){" + body + "}function f(a){1;2;}");
        Check.due("state of " + body, x.state(), 2);
        Check.due("steps of " + body, x.total(0), want);
    }

    /** "run(n) makes at most n; between two of them nothing is half done." */
    private static void nothingHalfDone() {
        Trees x = Check.loaded(100, "function main(a,b){print(1)==f(print(2));print(4);}function f(n){print(3);}");
        x.start(0, 0);
        Check.due("out ahead of the first", x.total(4), 0);
        x.run(1);
        Check.due("up to the next step", x.total(4), 4);
        Check.due("in f", x.total(1), 2);
        x.run(1);
        Check.due("up to the next step", x.total(4), 6);
        Check.due("f has come back", x.total(1), 1);
        x.run(1);
        Check.due("all", x.total(4), 8);
        Check.due("end", x.state(), 2);
    }

    /** A program that has MADE 81 times a and b more, ahead of its last STATEMENT; then its NODE tells the ERROR. */
    private static Trees made(String last, int a, int b) {
        Trees x = Check.loaded(100, "function main(a,b){x=10000000000000000000;y=1" + Check.times("0", 35)
                + ";t=\"" + Check.times("s", 40) + "\";i=0;"
                + "while(i<a){t+t;i=i+1;}i=0;while(i<b){\"\"+\"\";i=i+1;}" + last + ";return 1;}");
        x.start(a, b);
        x.run(20001);
        return x;
    }

    private static void madeUpTo(String last, int a, int b, String want) {
        Trees x = made(last, a, b);
        String outcome = x.state() == 3 ? "E" + x.error(0) + " of kind " + x.node(4, x.error(2), 0) : Check.outcome(x);
        Check.due(last + " behind " + (81 * a + b), outcome, want);
    }

    /** "MADE: a number that is BIG by + - * / 4 .. at most 100,000 in a RUN: ERROR 9 at the NODE". */
    private static void madeNumbers() {
        Trees x = Check.loaded(100, "function main(a,b){x=100000000000000000000;i=0;while(i<b){x"
                + Check.times("+0", 25) + ";i=i+1;}if(a==1){x+0;}return 1;}");
        x.start(0, 1000);
        x.run(20001);
        Check.due("25,000 of them", Check.outcome(x), "1");
        x.start(1, 1000);
        x.run(20001);
        Check.due("one more", x.error(0), 9);
        Check.due("at the +", x.node(4, x.error(2), 0), 8);
        x.start(1, 999);
        x.run(20001);
        Check.due("24,976 of them", Check.outcome(x), "1");
    }

    /** "a STRING that + gives its letters and 1". */
    private static void madeStrings() {
        madeUpTo("1", 1234, 46, "1");
        madeUpTo("1", 1234, 47, "E9 of kind 8");
        madeUpTo("\"\"+\"\"", 1234, 45, "1");
        madeUpTo("\"\"+\"\"", 1234, 46, "E9 of kind 8");
        madeUpTo("\"a\"+\"b\"", 1234, 43, "1");
        madeUpTo("\"a\"+\"b\"", 1234, 44, "E9 of kind 8");
        madeUpTo("\"a\"+12", 1234, 42, "1");
        madeUpTo("\"a\"+12", 1234, 43, "E9 of kind 8");
        madeUpTo("null+t", 1234, 1, "1");
        madeUpTo("null+t", 1234, 2, "E9 of kind 8");
    }

    /** A number that is BIG takes four, however great it is. */
    private static void madeByBoth() {
        madeUpTo("x+0", 1234, 42, "1");
        madeUpTo("x+0", 1234, 43, "E9 of kind 8");
        madeUpTo("x+0;\"\"+\"\"", 1234, 41, "1");
        madeUpTo("x+0;\"\"+\"\"", 1234, 42, "E9 of kind 8");
        madeUpTo("y*9", 1234, 42, "1");
        madeUpTo("y*9", 1234, 43, "E9 of kind 10");
        madeUpTo("9223372036854775807+1", 1234, 42, "1");
        madeUpTo("9223372036854775807+1", 1234, 43, "E9 of kind 8");
    }

    private static void madeOfEachSign() {
        String[] signs = {"+", "-", "*", "/"};
        for (int i = 0; i < 4; i++) {
            madeUpTo("x" + signs[i] + "1", 1234, 42, "1");
            madeUpTo("x" + signs[i] + "1", 1234, 43, "E9 of kind " + (8 + i));
        }
    }

    /** "ERROR 9 at the NODE (behind 8)". */
    private static void madeBehind8() {
        madeUpTo("y*y", 1234, 46, "E8 of kind 10");
        madeUpTo("y*x", 1234, 43, "E8 of kind 10");
        madeUpTo("y+1", 1234, 46, "E9 of kind 8");
        madeUpTo("x/0", 1234, 46, "E2 of kind 11");
        madeUpTo("x+null", 1234, 46, "E1 of kind 8");
        madeUpTo("t+main", 1234, 46, "E1 of kind 8");
        // s has 200 letters: 81 + 121 + 161 + 201 = 564 of 7 times 81 less.
        Trees x = Check.loaded(100, "function main(a,b){t=\"" + Check.times("s", 40) + "\";s=t+t+t+t+t;i=0;"
                + "while(i<1227){t+t;i=i+1;}i=0;while(i<49){\"\"+\"\";i=i+1;}if(a==1){s+\"x\";}if(a==2){s+\"\";}return 1;}");
        String[] wanted = {"1", "8", "9"};
        for (int a = 0; a < 3; a++) {
            x.start(a, 0);
            x.run(20001);
            Check.due("all is made, then " + a, a == 0 ? Check.outcome(x) : "" + x.error(0), wanted[a]);
        }
    }

    /** What is no BIG number and no STRING of a + is not MADE: with 100,000 all of it may come. */
    private static void notMade() {
        madeUpTo("1+1;2*3;7/2;1-5;0-9223372036854775807-1", 1234, 46, "1");
        madeUpTo("x=y;x<y;x==y;x!=1;x>=2", 1234, 46, "1");
        madeUpTo("x=12345678901234567890;t=\"abc\";t==\"abc\"", 1234, 46, "1");
        madeUpTo("kind(1);kind(t);print(x);print(t);new()", 1234, 46, "1");
        madeUpTo("define(\"function f(){12345678901234567890;}\");f()", 1234, 46, "1");
        madeUpTo("o=new();o.p=x;o[\"q\"]=t;o.p;o[\"q\"]", 1234, 46, "1");
    }

    /** "at most 100,000 in a RUN": each RUN has them anew. */
    private static void madeOfEachRun() {
        Trees x = made("\"\"+\"\"", 1234, 45);
        Check.due("100,000", Check.outcome(x), "1");
        x.start(1234, 45);
        x.run(20001);
        Check.due("100,000 again", Check.outcome(x), "1");
        x.start(1234, 46);
        x.run(20001);
        Check.due("one more", x.error(0), 9);
        x.start(1234, 45);
        x.run(20001);
        Check.due("100,000 behind an error", Check.outcome(x), "1");
        // A RUN that another takes the place of.
        x.start(1234, 45);
        x.run(3000);
        x.start(1234, 45);
        x.run(20001);
        Check.due("100,000 in place of another run", Check.outcome(x), "1");
    }
}
