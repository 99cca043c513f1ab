/** The FAULTS 3 to 6 of a TEXT and which FAULT is the first: each method has one sentence of the chapter TEXTS. */
final class TextLimitsTest {
    private static final int NONE = GraftTrees.NONE;

    public static void main(String[] args) {
        twentyOpen();
        openTillTheyClose();
        fiftyFunctions();
        sixNamesOfHead();
        twelveLocals();
        threeHundredNodes();
        nodesOfEachKind();
        twelveEsOfCall();
        outsideOfWhile();
        toldTwice();
        lesserNumber();
        firstOfSeveral();
        Check.end("TextLimitsTest");
    }

    /** "3 a ( [ { ! or = within 20 others that are open": the BLOCK's { is one of them. */
    private static void twentyOpen() {
        String[] opens = {"(", "f(", "a[", "!", "a="};
        String[] closes = {")", ")", "]", "", ""};
        for (int i = 0; i < opens.length; i++) {
            String open = opens[i];
            Check.goodBody(Check.times(open, 19) + "1" + Check.times(closes[i], 19) + ";");
            Check.faultyBody(Check.times(open, 20) + "1" + Check.times(closes[i], 20) + ";", 3, 20 * open.length() - 1);
            // Likewise within others.
            Check.goodBody(Check.times("(", 18) + open + "1" + closes[i] + Check.times(")", 18) + ";");
            Check.faultyBody(Check.times("(", 19) + open + "1" + closes[i] + Check.times(")", 19) + ";",
                    3, 18 + open.length());
        }
        Check.goodBody(Check.times("if(a){", 19) + Check.times("}", 19));
        Check.faultyBody(Check.times("if(a){", 20) + Check.times("}", 20), 3, 19 * 6 + 2);
        Check.goodBody(Check.times("while(a){", 19) + Check.times("}", 19));
        Check.faultyBody(Check.times("while(a){", 20) + Check.times("}", 20), 3, 19 * 9 + 5);
        Check.goodBody(Check.times("if(a){}else{", 19) + Check.times("}", 19));
        Check.faultyBody(Check.times("if(a){}else{", 20) + Check.times("}", 20), 3, 19 * 12 + 2);
        // The E of an if is open by ( : 17 BLOCKS and the body's, then ( and ! .
        Check.goodBody(Check.times("if(a){", 17) + "if(!a){}" + Check.times("}", 17));
        Check.faultyBody(Check.times("if(a){", 17) + "if(!!a){}" + Check.times("}", 17), 3, 17 * 6 + 4);
        Check.goodBody(Check.times("if(a){", 17) + "while(!a){}" + Check.times("}", 17));
        Check.faultyBody(Check.times("if(a){", 17) + "while((!a)){}" + Check.times("}", 17), 3, 17 * 6 + 7);
    }

    /** "(till ) ] } , a ! till its UNARY, a = till its E is through)": as often as they go. */
    private static void openTillTheyClose() {
        String group = Check.times("(", 19) + "a" + Check.times(")", 19);
        Check.goodBody(group + "+" + group + ";" + group + ";");
        String index = Check.times("a[", 19) + "1" + Check.times("]", 19);
        Check.goodBody(index + index.substring(1) + ";" + index + ";");
        String call = Check.times("f(", 19) + Check.times(")", 19);
        Check.goodBody(call + call.substring(1) + ";" + call + ";");
        String not = Check.times("!", 19) + "a";
        Check.goodBody(not + "==" + not + ";" + not + "&&" + not + "||" + not + ";");
        // A ! is through behind all parts of its UNARY.
        Check.faultyBody(not + "(1);", 3, 20);
        Check.faultyBody(not + "[1];", 3, 20);
        Check.goodBody(not + ".b;");
        Check.goodBody(Check.times("!", 18) + "a(1)[1];" + Check.times("!", 18) + "a+(1);");
        String set = Check.times("a=", 19) + "1;";
        Check.goodBody(set + set);
        // A = within ( ) of a call is through at the comma.
        Check.goodBody(Check.times("(", 17) + "f(a=1,a=1,a=1,(1))" + Check.times(")", 17) + ";");
        Check.faultyBody(Check.times("(", 17) + "f(a=1,a=(1))" + Check.times(")", 17) + ";", 3, 25);
        String ifs = Check.times("if(a){", 19) + Check.times("}", 19);
        Check.goodBody(ifs + ifs);
        String elses = Check.times("if(a){}else{", 19) + Check.times("}", 19);
        Check.goodBody(elses + elses);
        String whiles = Check.times("while(a){", 19) + Check.times("}", 19);
        Check.goodBody(whiles + whiles);
        // A head's ( and a BLOCK's { are closed by its FUNCTION's end.
        Check.good("function f(a){" + group + ";}function g(a){" + group + ";}");
        // What a FAULT left open is open no more in the next TEXT.
        Trees x = new Trees(1);
        Check.due("load", x.load(Check.feed(x, "function f(){((((((((((")), NONE);
        Check.due("load", x.load(Check.feed(x, "function f(a){" + group + ";}")), 5);
    }

    private static String functions(int count) {
        StringBuilder all = new StringBuilder();
        for (int i = 0; i < count; i++) {
            all.append("function f").append(i).append("(){}");
        }
        return all.toString();
    }

    /** "4 the 51st FUNCTION (at its NAME)". */
    private static void fiftyFunctions() {
        String fifty = functions(50);
        Trees x = new Trees(1);
        Check.due("roots", x.load(Check.feed(x, fifty)), 54);
        Check.due("the last one", x.root(53, 32), '9');
        Check.faulty(fifty + "function g(){}", 4, fifty.length() + 9);
        Check.faulty(fifty + " function  g", 4, fifty.length() + 11);
        Check.faulty(fifty + "function", 2, fifty.length() + 8);
        // The FUNCTIONS of a TEXT are counted, not those that were there.
        Check.due("roots", x.load(Check.feed(x, functions(49))), 53);
        Check.due("roots", x.load(Check.feed(x, functions(50))), 54);
    }

    /** "the 7th NAME of a head". */
    private static void sixNamesOfHead() {
        Check.good("function f(a,b,c,d,e,g){}function h(a,b,c,d,e,g){}");
        Check.faulty("function f(a,b,c,d,e,g,h){}", 4, 23);
        Check.faulty("function f(a,b,c,d,e,g, h", 4, 24);
        Check.faulty("function f(a,b,c,d,e,g,){}", 2, 23);
        Trees x = Check.ran("function f(a,b,c,d,e,g){return g;}function main(){return f(1,2,3,4,5,6,7);}");
        Check.due("outcome", Check.outcome(x), "6");
        Check.due("locals", x.root(4, 1), 6);
    }

    /** "a 13th LOCAL (at its NAME, as its = is taken)"; "LOCALS of a FUNCTION: .. at most 12". */
    private static void twelveLocals() {
        String twelve = "c=d=e=f=g=h=i=j=k=l=1;";
        Check.goodBody(twelve);
        Check.faultyBody(twelve + "m=1;", 4, 22);
        Check.faultyBody(twelve + "1+(m =1);", 4, 25);
        Check.faultyBody("m=" + twelve, 4, 20);
        // What is a LOCAL already, a NAME without = and what is behind a . are none more.
        Check.goodBody(twelve + "a=b=c=l=1;m;m+1;m(1);a.m=1;m.a=1;m[1]=1;");
        Check.faultyBody(twelve + "m;m.a=1;m=1;", 4, 30);
        Check.good("function f(a,b,c,d,e,g){h=i=j=k=l=m=1;}");
        Check.faulty("function f(a,b,c,d,e,g){h=i=j=k=l=m=n=1;}", 4, 36);
        Check.good("function f(){a=b=c=d=e=f=g=h=i=j=k=l=1;}");
        Check.faulty("function f(){a=b=c=d=e=f=g=h=i=j=k=l=m=1;}", 4, 37);
        // Each FUNCTION has its own.
        Check.good("function f(){a=b=c=d=e=f=g=h=i=j=k=l=1;}function g(){m=b=c=d=e=f=g=h=i=j=k=l=1;}");
        Trees x = Check.ran("function main(a,b){" + twelve + "l=l+1;return l;}");
        Check.due("outcome", Check.outcome(x), "2");
        Check.due("locals", x.root(4, 1), 12);
        Check.due("the sort of the last", x.root(4, 21), 1);
        Check.due("its number", x.node(4, 11, 11), 11);
    }

    /** "the TOKEN of a 301st NODE". */
    private static void threeHundredNodes() {
        String most = "function f(){" + Check.times("1;", 300);
        Check.good(most + "}");
        Check.faulty(most + "1;}", 4, 13 + 600);
        Trees x = Check.loaded(1, most + "}");
        Check.due("nodes", x.root(4, 0), 300);
        Check.due("the last", x.node(4, 299, 1), 13 + 598);
        Check.due("none behind it", x.node(4, 300, 1), NONE);
        // Those of the head count, and each FUNCTION has its own.
        Check.good("function f(a,b,c,d,e,g){" + Check.times("1;", 294) + "}");
        Check.faulty("function f(a,b,c,d,e,g){" + Check.times("1;", 295) + "}", 4, 24 + 588);
        Check.good(most + "}" + most.replace("f(", "g(") + "}");
        Check.faulty(most + "}" + most.replace("f(", "g(") + "1;}", 4, 614 + 613);
        // ( ) ; , { } = and else are no NODES.
        Check.good(most.substring(0, 13 + 594) + "((1));a=2;}");
    }

    /** A 301st NODE of each KIND that may come behind others; with one NODE less it is the 300th. */
    private static void nodesOfEachKind() {
        String[] first = {"1;", "\"s\";", "true;", "false;", "null;", "a;", "f;", "a=", "!1;", "if(", "while(", "return;",
            "return "};
        for (String one : first) {
            limitAt(300, one, 0);
        }
        Check.good("function f(){while(1){" + Check.times("1;", 297) + "break;}}");
        Check.faulty("function f(){while(1){" + Check.times("1;", 298) + "break;}}", 4, 22 + 596);
        Check.good("function f(){while(1){" + Check.times("1;", 297) + "continue;}}");
        Check.faulty("function f(){while(1){" + Check.times("1;", 298) + "continue;}}", 4, 22 + 596);
        // With 299 there, what is ahead of the sign is the 300th.
        String[] second = {"+", "-", "*", "/", "<", "<=", ">", ">=", "==", "!=", "&&", "||", ".", "[", "("};
        for (String one : second) {
            limitAt(299, "a" + one, 1);
        }
        Check.good("function f(){" + Check.times("1;", 297) + "a+1;}");
        Check.faulty("function f(){" + Check.times("1;", 298) + "a+1;}", 4, 13 + 596 + 2);
        Check.good("function f(){" + Check.times("1;", 298) + "f();}");
        Check.good("function f(){" + Check.times("1;", 298) + "a.b;}");
        Check.good("function f(){" + Check.times("1;", 297) + "a.b=1;}");
        Check.faulty("function f(){" + Check.times("1;", 298) + "a.b=1;}", 4, 13 + 596 + 4);
        Check.good("function f(){" + Check.times("1;", 298) + "if(1){}}");
        Check.good("function f(){" + Check.times("1;", 299) + "return;}");
    }

    private static void limitAt(int nodes, String part, int place) {
        Check.faulty("function f(){" + Check.times("1;", nodes) + part, 4, 13 + 2 * nodes + place);
    }

    /** "the 13th E between the ( ) of a call (its first TOKEN)". */
    private static void twelveEsOfCall() {
        String twelve = "f(1,2,3,4,5,6,7,8,9,1,2,3";
        Check.goodBody(twelve + ");");
        for (String first : new String[] {"1", "a", "\"s\"", "true", "false", "null", "(1)", "!a", "a=1", "f()"}) {
            Check.faultyBody(twelve + "," + first + ");", 4, twelve.length() + 1);
        }
        Check.faultyBody(twelve + ", a", 4, twelve.length() + 2);
        Check.faultyBody(twelve + ",);", 2, twelve.length() + 1);
        Check.faultyBody(twelve + ",,1);", 2, twelve.length() + 1);
        // Each call has its own.
        Check.goodBody(twelve + ")(1,2,3,4,5,6,7,8,9,1,2," + twelve + "));");
        Check.faultyBody(twelve.substring(0, twelve.length() - 1) + twelve + "),1);", 4, 2 * twelve.length() + 1);
        Check.due("all twelve are worked out", Check.outcome(Check.ran("function f(a){return a;}function main(){"
                + "return f(1,2,3,4,5,6,7,8,9,1,2,3/0);}")), "E2@14");
        Check.says("return kind(1,2,3,4,5,6,7,8,9,1,2,3);", "number");
    }

    /** "5 break, continue outside of a while of its FUNCTION." */
    private static void outsideOfWhile() {
        for (String leap : new String[] {"break", "continue"}) {
            Check.faultyBody(leap + ";", 5, 0);
            Check.faultyBody("a;" + leap, 5, 2);
            Check.faultyBody("if(a){" + leap + ";}", 5, 6);
            Check.faultyBody("if(a){}else{" + leap + ";}", 5, 12);
            Check.goodBody("while(a){" + leap + ";}");
            Check.faultyBody("while(a){}" + leap + ";", 5, 10);
            Check.goodBody("while(a){if(b){" + leap + ";}else{" + leap + ";}" + leap + ";}");
            Check.goodBody("while(a){while(b){}" + leap + ";}");
            Check.faultyBody("while(a){while(b){}}" + leap + ";", 5, 20);
            Check.faulty("function f(){while(true){}}function g(){" + leap + ";}", 5, 40);
            Check.faultyBody("while(a){" + leap + "}", 2, 9 + leap.length());
        }
    }

    /** "6 a FUNCTION's NAME that this TEXT has told, a NAME twice in a head." */
    private static void toldTwice() {
        Check.faulty("function f(){}function f(){}", 6, 23);
        Check.faulty("function f(){}function g(){}function h(){}function f", 6, 51);
        Check.faulty("function f(){}function g(){}function g", 6, 37);
        Check.good("function f(){}function F(){}function ff(){}function f1(){}");
        Check.good("function print(){}function new(){}function kind(){}function define(){}function main(){}");
        Check.faulty("function f(a,a){}", 6, 13);
        Check.faulty("function f(a,b,c,d,e,a){}", 6, 21);
        Check.faulty("function f(a,b,c,d,e,e", 6, 21);
        Check.good("function f(f,g){}function g(f,g){}");
        // What an earlier TEXT has told is no matter.
        Trees x = new Trees(1);
        Check.due("load", x.load(Check.feed(x, "function f(){}")), 5);
        Check.due("load", x.load(Check.feed(x, "function f(){}")), 5);
    }

    /** "(Of one TOKEN the lesser number.)" */
    private static void lesserNumber() {
        String fifty = functions(50);
        // 4 and 6 of a FUNCTION's NAME, of a NAME of a head.
        Check.faulty(fifty + "function f1(){}", 4, fifty.length() + 9);
        Check.faulty("function f(a,b,c,d,e,g,a){}", 4, 23);
        // 2 and 4.
        Check.faulty(fifty + "function 1(){}", 2, fifty.length() + 9);
        Check.faulty("function f(a,b,c,d,e,g,1){}", 2, 23);
        Check.faultyBody("f(1,2,3,4,5,6,7,8,9,1,2,3,;", 2, 26);
        Check.faulty("function f(){" + Check.times("1;", 300) + "else", 2, 613);
        Check.faulty("function f(){" + Check.times("1;", 299) + "1 1", 2, 613);
        // 2 and 3.
        Check.faultyBody(Check.times("(", 19) + "1=", 2, 20);
        Check.faultyBody(Check.times("(", 19) + "1!", 2, 20);
        Check.faultyBody(Check.times("(", 19) + "{", 2, 19);
        Check.faultyBody(Check.times("(", 19) + "[", 2, 19);
        // 3 and 4: a 301st NODE, a 13th E, a 13th LOCAL, whose place is another one.
        Check.faulty("function f(){" + Check.times("1;", 300) + Check.times("(", 19) + "!", 3, 613 + 19);
        Check.faulty("function f(){" + Check.times("1;", 299) + Check.times("(", 19) + "a(", 3, 611 + 20);
        Check.faulty("function f(){" + Check.times("1;", 299) + Check.times("(", 19) + "a[", 3, 611 + 20);
        Check.faultyBody(Check.times("(", 18) + "f(1,2,3,4,5,6,7,8,9,1,2,3,(", 3, 44);
        Check.faultyBody(Check.times("(", 18) + "f(1,2,3,4,5,6,7,8,9,1,2,3,!", 3, 44);
        Check.faultyBody("c=d=e=f=g=h=i=j=k=l=1;" + Check.times("(", 19) + "m=", 3, 42);
        // 4 and 5.
        Check.faulty("function f(){" + Check.times("1;", 300) + "break;", 4, 613);
        Check.faulty("function f(){" + Check.times("1;", 299) + "break;", 5, 611);
        Check.faulty("function f(){" + Check.times("1;", 300) + "continue;", 4, 613);
    }

    /** "FAULTS, the first one as TOKENS are taken one by one (each is read as the one ahead of it is taken)". */
    private static void firstOfSeveral() {
        Check.faulty("x $", 2, 0);
        Check.faulty("function $ 1", 1, 9);
        Check.faulty("function f(){a b $}", 2, 15);
        Check.faulty("function f(){a + $}", 1, 17);
        Check.faulty("function f(){)\"", 2, 13);
        Check.faulty("function f(){a;b=;$}", 2, 17);
        Check.faultyBody("1 2; break;", 2, 2);
        Check.faultyBody("break; 1 2;", 5, 0);
        Check.faultyBody("(1)=2;\"", 2, 3);
        Check.faulty("function f(a,a){} $", 6, 13);
        Check.faulty("function f(){}function f(){$", 6, 23);
    }
}
