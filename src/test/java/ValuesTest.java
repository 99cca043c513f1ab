/** What a program says: VALUES, ERRORS, OUT, and how a RUN goes on: promises 5 to 10. */
final class ValuesTest {
    private static final int NONE = GraftTrees.NONE;

    public static void main(String[] args) {
        starting();
        stepping();
        numbers();
        strings();
        comparisons();
        truths();
        calls();
        objects();
        statements();
        ownFunctions();
        defining();
        errorPlaces();
        Check.end("ValuesTest");
    }

    private static void starting() {
        Trees x = new Trees(1);
        Check.due("start without a text", x.start(1, 2), false);
        Check.due("state", x.state(), 0);
        Check.due("run", x.run(5), 0);
        x = Check.loaded(1, "function f(){}");
        Check.due("start without main", x.start(1, 2), false);
        x = Check.loaded(1, "function main(){}");
        Check.due("start", x.start(1, 2), true);
        Check.due("main without statements", x.state(), 2);
        Check.due("result", Check.result(x), "null");
        Check.due("run", x.run(1), 0);
        x = Check.loaded(1, "function main(a,b,c){print(a);return a+\" \"+b+\" \"+c;}");
        x.start(Long.MIN_VALUE, Long.MAX_VALUE);
        Check.due("state", x.state(), 1);
        Check.due("no result yet", x.result(0), NONE);
        Check.due("no error", x.error(0), NONE);
        x.run(9);
        Check.due("result", Check.result(x), "-9223372036854775808 9223372036854775807 null");
        x.start(1, 2);
        Check.due("the out is the run's", x.out(0), NONE);
        Check.due("result of another run", x.result(0), NONE);
        x.run(9);
        Check.due("result", Check.result(x), "1 2 null");
        Check.due("out", Check.out(x), "1\n");
        Check.due("letter below 0", x.result(-1), NONE);
        Check.due("letter behind the end", x.result(8), NONE);
        Check.due("out below 0", x.out(-1), NONE);
        Check.due("out behind the end", x.out(2), NONE);
    }

    private static void stepping() {
        Trees x = Check.loaded(100, "function main(a,b){i=0;while(i<2){i=i+1;}f(i);return i;}function f(x){x;}");
        x.start(1, 2);
        Check.due("run 0", x.run(0), 0);
        Check.due("run -1", x.run(-1), 0);
        Check.due("run", x.run(Integer.MIN_VALUE), 0);
        // i=0, while, i=i+1, E, i=i+1, E, f(i), x, return
        Check.due("run 6", x.run(6), 6);
        Check.due("state", x.state(), 1);
        Check.due("activations", x.total(1), 1);
        Check.due("run 1", x.run(1), 1);
        Check.due("activations in f", x.total(1), 2);
        Check.due("the newest is f", x.frame(0, 0), 5);
        Check.due("below it main", x.frame(1, 0), 4);
        Check.due("run 1", x.run(1), 1);
        Check.due("activations", x.total(1), 1);
        Check.due("run 5", x.run(5), 1);
        Check.due("state", x.state(), 2);
        Check.due("steps", x.total(0), 9);
        Check.due("activations", x.total(1), 0);
        Check.due("the most", x.total(2), 2);
        Check.due("run", x.run(5), 0);
        // break and continue are STEPS, a WHILE that is begun anew has a first E again.
        x = Check.ran("function main(){i=0;while(true){i=i+1;j=0;while(j<1){j=j+1;continue;}if(i==2){break;}}}");
        Check.due("steps", x.total(0), 1 + 1 + 7 + 1 + 7 + 1);
        x = Check.loaded(100, "function main(){while(true){}}");
        x.start(0, 0);
        Check.due("steps of all", x.run(20000), 20000);
        Check.due("under way yet", x.state(), 1);
        Check.due("one more", x.run(1), 0);
        Check.due("error", x.error(0), 10);
        Check.due("at the while", x.error(2), 0);
        Check.due("steps", x.total(0), 20000);
        x = Check.loaded(100, "function main(){while(true){1+1;}}");
        x.start(0, 0);
        Check.due("steps of all", x.run(20001), 20000);
        Check.due("error", Check.outcome(x), "E10@0");
        x = Check.loaded(100, "function main(){1;while(true){1+1;}}");
        x.start(0, 0);
        x.run(30000);
        Check.due("at the first node of a statement", Check.outcome(x), "E10@3");
        Check.due("error -1", x.error(-1), NONE);
        Check.due("error 3", x.error(3), NONE);
    }

    private static void numbers() {
        Check.says("return 7/2+(0-7)/2*10;", "-27");
        Check.says("return (0-7)/(0-2);", "3");
        Check.says("return 1-2-3;", "-4");
        Check.says("return 2+3*4;", "14");
        Check.says("return 007;", "7");
        Check.says("return 9223372036854775807+1;", "9223372036854775808");
        Check.says("return 0-9223372036854775807-2;", "-9223372036854775809");
        Check.says("return (0-9223372036854775807-1)/(0-1);", "9223372036854775808");
        Check.says("return 3037000500*3037000500;", "9223372037000250000");
        Check.says("return 999999999999999999999999999999999999;", "999999999999999999999999999999999999");
        Check.says("return 0-999999999999999999999999999999999999;", "-999999999999999999999999999999999999");
        Check.says("return 999999999999999999999999999999999998+1;", "999999999999999999999999999999999999");
        Check.says("return 999999999999999999999999999999999999+1;", "E8@3");
        Check.says("return 0-999999999999999999999999999999999999-1;", "E8@3");
        Check.says("return 1000000000000000000*1000000000000000000;", "E8@3");
        Check.says("return 999999999999999999*1000000000000000001;", "999999999999999999999999999999999999");
        Check.says("return 999999999999999999999999999999999999/1000000000000000001;", "999999999999999999");
        Check.says("return (0-100000000000000000000)/33333333333333333333;", "-3");
        Check.says("return 100000000000000000000/100000000000000000001;", "0");
        Check.says("return 100000000000000000000-100000000000000000000;", "0");
        Check.says("return 100000000000000000000-1;", "99999999999999999999");
        Check.says("return 1-100000000000000000000;", "-99999999999999999999");
        Check.says("x=100000000000000000000;return x*3+\" \"+x*7+\" \"+x/3*(0-5);",
                "300000000000000000000 700000000000000000000 -166666666666666666665");
        Check.says("return 999999999999999999999999999999999999/3;", "333333333333333333333333333333333333");
        Check.says("return 100000000000000000000000000000000000/7;", "14285714285714285714285714285714285");
        Check.says("return 123456789012345678901234567890/9;", "13717421001371742100137174210");
        Check.says("return 999999999999999999999999999999999999/1000000000000000000;", "999999999999999999");
        Check.says("return 999999999999999999999999999999999999/999999999;", "1000000001000000001000000001");
        Check.says("return 987654321098765432109876543210987654/1000000001;", "987654320111111111998765431");
        Check.says("return 500000000000000000000000000000000000/100000000000000000000000000000000000;", "5");
        Check.says("return 999999999999999999999999999999999999/999999999999999999999999999999999998;", "1");
        Check.says("return 4000000003000000000000000000/1000000000;", "4000000003000000000");
        Check.says("return 999999998000000001000000000/999999999;", "999999999000000000");
        Check.says("return 1/0;", "E2@3");
        Check.says("x=100000000000000000000;return 1/(x-x);", "E2@5");
        Check.says("return null/0;", "E1@3");
        Check.says("return 1-\"1\";", "E1@3");
        Check.says("return true*1;", "E1@3");
        Check.says("return null+1;", "E1@3");
        Check.says("return new()+1;", "E1@3");
        Check.says("return true+true;", "E1@3");
    }

    private static void strings() {
        Check.says("return \"a\"+1+true+null+\"\"+(0-5);", "a1truenull-5");
        Check.says("return 1+2+\"a\";", "3a");
        Check.says("return null+\"a\"+100000000000000000000;", "nulla100000000000000000000");
        Check.says("return \"a\"+new();", "E1@3");
        Check.says("return main+\"a\";", "E1@3");
        Check.says("return \"a\"+main;", "E1@3");
        Check.says("return new()+\"a\";", "E1@3");
        Check.says("s=\"0123456789\";s=s+s;s=s+s+s+s+s;s=s+s;return s+\"\"==s;", "true");
        Check.says("s=\"0123456789\";s=s+s;s=s+s+s+s+s;s=s+s;return s+1;", "E8@23");
        Check.says("return \"//\";", "//");
        Check.says("return \"\";", "");
        Check.says("return main;", "main");
        Check.says("return nobody;", "nobody");
        Check.says("return new();", "{}");
        Trees x = Check.ran("function main(){s=\"0123456789012345678901234567890123456789\";s=s+s+s+s+s;"
                + "i=0;while(i<10){print(s);i=i+1;}print(\"x\");}");
        Check.due("letters of the out", x.total(4), 10 * 201 + 2);
        Check.due("the last that is kept", x.out(1999), (int) "0123456789012345678901234567890123456789".charAt(190 % 40));
        Check.due("no more are kept", x.out(2000), NONE);
    }

    private static void comparisons() {
        Check.says("return (1<2)+\"\"+(2<2)+(2<=2)+(1>2)+(2>1)+(2>=3)+(2>=2);", "truefalsetruefalsetruefalsetrue");
        Check.says("return 100000000000000000000>99999999999999999999;", "true");
        Check.says("return 0-100000000000000000000<1;", "true");
        Check.says("return (100000000000000000000<100000000000000000001)+\"\"+(100000000000000000001==100000000000000000000);",
                "truefalse");
        Check.says("return \"a\"<\"b\";", "E1@3");
        Check.says("return null<1;", "E1@3");
        Check.says("return true>=false;", "E1@3");
        Check.says("return (1==1)+\"\"+(1==2)+(1!=2)+(\"a\"==\"a\")+(\"a\"==\"b\")+(true==true)+(true!=false);",
                "truefalsetruetruefalsetruetrue");
        Check.says("return (null==null)+\"\"+(1==\"1\")+(null==false)+(0==false)+(main==main)+(main==print)+(main==\"main\");",
                "truefalsefalsefalsetruefalsefalse");
        Check.says("o=new();p=o;return (o==p)+\"\"+(o==new())+(o!=new());", "truefalsetrue");
        // A number that came to be BIG is what it is.
        Check.says("x=100000000000000000000;return (x-x+5==5)+\"\"+(x==x+0)+(x==5);", "truetruefalse");
        Check.says("return ghost==ghost;", "true");
    }

    private static void truths() {
        Check.says("return (true&&false)+\"\"+(true&&true)+(false||true)+(false||false)+!true;",
                "falsetruetruefalsefalse");
        Check.says("return false&&1/0==1;", "false");
        Check.says("return true||1/0==1;", "true");
        Check.says("return true&&1;", "E1@3");
        Check.says("return false||null;", "E1@3");
        Check.says("return 1&&true;", "E1@3");
        Check.says("return !1;", "E1@3");
        Check.says("if(1){}", "E1@2");
        Check.says("while(null){}", "E1@2");
        Check.says("return true||false&&false;", "true");
    }

    private static void calls() {
        Check.due("args", Check.outcome(Check.ran("function f(a,b,c){return a+\" \"+b+\" \"+c;}"
                + "function main(){return f(1)+f(1,2,3,4);}")), "1 null null1 2 3");
        Check.due("too many args are worked out", Check.outcome(Check.ran("function f(){return 1;}"
                + "function main(){f(1/0);}")), "E2@2");
        Check.due("functions are values", Check.outcome(Check.ran("function f(a){return a+1;}"
                + "function app(g,x){return g(x);}function main(){h=f;return app(h,app(f,5));}")), "7");
        Check.due("end of a block", Check.outcome(Check.ran("function f(){return;}function g(){1;}"
                + "function main(){return f()==g();}")), "true");
        Check.due("null of a block's end", Check.outcome(Check.ran("function f(){1;}function g(){}function h(){return;}"
                + "function main(){return \"a\"+f()+1+g()+h();}")), "anull1nullnull");
        Check.due("a call of what is called", Check.outcome(Check.ran("function f(){return g;}function g(x){return x;}"
                + "function main(){return f()(8);}")), "8");
        Check.due("each activation has its own locals", Check.outcome(Check.ran("function f(n){if(n==0){return 1;}"
                + "m=n;f(n-1);return m;}function main(){return f(3);}")), "3");
        Check.says("1();", "E6@2");
        Check.says("x();x=1;", "E6@2");
        Check.says("ghost(1/0);", "E2@4");
        Check.says("ghost();", "E3@2");
        Check.says("null(ghost());", "E3@4");
        // 59 calls may be open, main's is the first.
        String deep = "function f(n){if(n>1){f(n-1);}}function main(){f(58);return 1;}";
        Trees x = Check.ran(deep);
        Check.due("58 within main", Check.outcome(x), "1");
        Check.due("the most", x.total(2), 59);
        x = Check.ran(deep.replace("58", "59"));
        Check.due("59 within main", Check.outcome(x), "E7@5");
        Check.due("the call is not made", x.total(14), 59);
        Check.due("print as the 59th", Check.outcome(Check.ran("function f(n){if(n>1){f(n-1);}else{print(1);}}"
                + "function main(){f(57);return 1;}")), "1");
        Check.due("print as the 60th", Check.outcome(Check.ran("function f(n){if(n>1){f(n-1);}else{print(1);}}"
                + "function main(){f(58);return 1;}")), "E7@10");
    }

    private static void objects() {
        Check.says("o=new();o.a=1;o[\"b\"]=2;o.a=o.a+o.b;return o[\"a\"]+\" \"+o.b;", "3 2");
        Check.says("o=new();return o.p=5;", "5");
        Check.says("o=new();o.o=o;o.o.o.x=3;return o.x;", "3");
        Check.says("o=new();return o.p;", "E5@6");
        Check.says("o=new();return o[1];", "E1@6");
        Check.says("o=new();return 1[1];", "E4@6");
        Check.says("1.p;", "E4@2");
        Check.says("null.p=1;", "E4@2");
        Check.says("o=new();o[null]=1;", "E1@5");
        Check.says("o=new();o[null]=1/0;", "E2@8");
        Check.says("o=new();i=0;while(i<12){o[\"k\"+i]=i;i=i+1;}o.k3=5;return o.k3+o.k11;", "16");
        Check.says("o=new();i=0;while(i<12){o[\"k\"+i]=i;i=i+1;}o.z=1;", "E9@21");
        Check.says("i=0;while(i<400){new();i=i+1;}return i;", "400");
        Trees x = Check.ran("function main(){while(true){new();}}");
        Check.due("401 objects", Check.outcome(x), "E9@2");
        Check.due("objects", x.total(3), 400);
        Check.due("calls, also the last one", x.total(14), 402);
        x.start(0, 0);
        Check.due("objects of a new run", x.total(3), 0);
    }

    private static void statements() {
        Check.says("if(true){return 1;}else{return 2;}", "1");
        Check.says("if(false){return 1;}else{return 2;}", "2");
        Check.says("if(false){return 1;}return 3;", "3");
        Check.says("s=0;i=0;while(i<10){i=i+1;if(i==3){continue;}if(i==6){break;}s=s*10+i;}return s;", "1245");
        Check.says("i=0;while(i<3){j=0;while(true){j=j+1;if(j>i){break;}}i=i+j;}return i;", "3");
        Check.says("return x;x=1;", "null");
        Check.says("return (x=5)+x;", "10");
        Check.says("return x+(x=\"5\");", "null5");
    }

    private static void ownFunctions() {
        Trees x = Check.ran("function main(){print(1);print();print(\"a\",2);print(null);print(true);print(print);"
                + "print(new());return print(0-3);}");
        Check.due("out", Check.out(x), "1\nnull\na\nnull\ntrue\nprint\n{}\n-3\n");
        Check.due("letters", x.total(4), 31);
        Check.due("what print gives", Check.result(x), "null");
        Check.says("return kind(1)+kind(100000000000000000000)+kind(\"\")+kind(true)+kind(null)+kind()+kind(kind)+kind(new(1));",
                "numbernumberstringtruthnullnullfunctionobject");
        Check.says("return kind(kind)==\"function\";", "true");
    }

    private static void defining() {
        Check.says("define(\"function f(x){return x+1;}\");return f(2);", "3");
        Check.says("return define(\"function f(){}function g(){}\");", "null");
        Check.says("define(1);", "E11@2");
        Check.says("define();", "E11@2");
        Check.says("define(\"function f(){\");", "E11@2");
        Check.says("define(\"\");", "E11@2");
        Check.says("define(\"function f(){}function f(){}\");", "E11@2");
        Check.due("the new one for all calls behind that", Check.outcome(Check.ran("function f(){return 1;}"
                + "function main(){g=f;x=f();define(\"function f(){return 2;}\");return x*100+g()*10+f();}")), "122");
        Check.due("an activation goes on with its root", Check.outcome(Check.ran(
                "function main(){define(\"function main(){return 2;}\");return 1+main();}")), "3");
        Check.due("print may be defined too", Check.outcome(Check.ran("function print(x){return x*2;}"
                + "function main(){return print(4);}")), "8");
        Trees x = Check.ran("function main(){i=0;while(true){define(\"function f\"+i+\"(){}\");i=i+1;}}");
        Check.due("61 roots", Check.outcome(x), "E9@4");
        Check.due("roots", x.total(5), 60);
        x = Check.ran("function main(){i=0;while(i<54){define(\"function f\"+i+\"(){}\");i=i+1;}"
                + "define(\"function g(){}function h(){}\");}");
        Check.due("two more than there is place for one", Check.outcome(x), "E9@17");
        Check.due("none of them comes", x.total(5), 59);
        Check.due("the fault of load is not that of define", x.fault(0), 0);
    }

    private static void errorPlaces() {
        Trees x = Check.ran("function main(){f(1);}function f(x){return x/0;}");
        Check.due("number", x.error(0), 2);
        Check.due("root", x.error(1), 5);
        Check.due("node", x.error(2), 2);
        Check.due("no activations", x.total(1), 0);
        Check.due("no frame", x.frame(0, 0), NONE);
        Check.due("no result", x.result(0), NONE);
        x = Check.ran("function main(){print(1);1();}");
        Check.due("the out stays", Check.out(x), "1\n");
        x.start(1, 1);
        Check.due("no error of a new run", x.error(0), NONE);
    }
}
