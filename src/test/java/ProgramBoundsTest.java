/** What is too great, too many or of the wrong kind in a program: each method has one sentence of chapter II. */
final class ProgramBoundsTest {
    private static final String NINES = Check.times("9", 36);

    public static void main(String[] args) {
        numbersBelow10To36();
        stringsOf200();
        functionsOfEachName();
        fourHundredObjects();
        twelveProperties();
        textsOfDefine();
        missingAndTooManyArgs();
        joinedValues();
        operandsOfEachKind();
        divisors();
        onlyIfItMatters();
        truthsAreWhatTheyAre();
        whatEqualsGives();
        unsetLocalsAndEnds();
        getsInOrder();
        putsInOrder();
        callsInOrder();
        deepCalls();
        neverTooGreat();
        nothingIsDone();
        sixtyRoots();
        Check.end("ProgramBoundsTest");
    }

    /** "whole numbers, less than 10 to the 36 by size"; "8 a number .. that is too great (at the NODE ..)". */
    private static void numbersBelow10To36() {
        Check.says("return " + NINES + "+0;", NINES);
        Check.says("return " + NINES + "+1;", "E8@3");
        Check.says("return 1+" + NINES + ";", "E8@3");
        Check.says("return " + NINES + "+" + NINES + ";", "E8@3");
        Check.says("return 0-" + NINES + ";", "-" + NINES);
        Check.says("return 0-" + NINES + "-1;", "E8@3");
        Check.says("return 0-" + NINES + "+(0-1);", "E8@3");
        Check.says("return " + NINES + "-(0-1);", "E8@3");
        Check.says("return 0-" + NINES + "+1;", "-" + Check.times("9", 35) + "8");
        Check.says("return 999999999999999999*1000000000000000001;", NINES);
        Check.says("return (0-999999999999999999)*1000000000000000001;", "-" + NINES);
        Check.says("return 1000000000000000000*1000000000000000000;", "E8@3");
        Check.says("return (0-1000000000000000000)*1000000000000000000;", "E8@3");
        Check.says("return (0-1000000000000000000)*(0-1000000000000000000);", "E8@3");
        Check.says("return " + NINES + "*1;", NINES);
        Check.says("return " + NINES + "*(0-1);", "-" + NINES);
        Check.says("return " + NINES + "*2;", "E8@3");
        Check.says("return " + NINES + "*" + NINES + ";", "E8@3");
        Check.says("return 1" + Check.times("0", 35) + "*9;", "9" + Check.times("0", 35));
        Check.says("return 1" + Check.times("0", 35) + "*10;", "E8@3");
        Check.says("return " + NINES + "/1;", NINES);
        Check.says("return " + NINES + "/(0-1);", "-" + NINES);
        Check.says("return " + NINES + "/" + NINES + ";", "1");
    }

    private static String makes(int letters) {
        // 40, 80, 120, 160, 200 letters, less what is not wanted of the last.
        String forty = Check.times("s", 40);
        return "t=\"" + forty + "\";s=t+t+t+t+\"" + forty.substring(0, letters - 160) + "\";";
    }

    /** "STRINGS of at most 200 letters"; "8 a .. STRING that is too great". */
    private static void stringsOf200() {
        String all = Check.times("s", 200);
        Check.says(makes(200) + "return s;", all);
        Check.says(makes(200) + "return s+\"\";", all);
        Check.says(makes(199) + "return s+\"x\";", all.substring(1) + "x");
        Check.says(makes(199) + "return \"x\"+s;", "x" + all.substring(1));
        Check.says(makes(200) + "return kind(s+\"x\");", "E8@17");
        Check.says(makes(200) + "return kind(\"x\"+s);", "E8@17");
        Check.says(makes(200) + "return kind(s+s);", "E8@17");
        // What is SHOWN counts, as it is SHOWN.
        Check.says(makes(199) + "return s+7;", all.substring(1) + "7");
        Check.says(makes(199) + "return kind(s+10);", "E8@17");
        Check.says(makes(199) + "return kind(s+(0-1));", "E8@17");
        Check.says(makes(196) + "return s+true;", all.substring(4) + "true");
        Check.says(makes(196) + "return kind(s+false);", "E8@17");
        Check.says(makes(196) + "return null+s;", "null" + all.substring(4));
        Check.says(makes(197) + "return kind(null+s);", "E8@17");
        Check.says(makes(164) + "return s+" + NINES + ";", all.substring(36) + NINES);
        Check.says(makes(165) + "return kind(s+" + NINES + ");", "E8@17");
    }

    /** "FUNCTIONS, one for each NAME, whether it is DEFINED or not". */
    private static void functionsOfEachName() {
        Check.says("return kind(ghost)+(ghost==ghost)+(ghost==other)+(ghost!=print)+(main==main);",
                "functiontruefalsetruetrue");
        Check.says("return ghost;", "ghost");
        Check.says("x=ghost;define(\"function ghost(){return 5;}\");return x();", "5");
        Check.says("x=ghost;return x();", "E3@5");
        Check.due("of each text the same", Check.outcome(Check.ran("function f(){return ghost;}"
                + "function main(){return f()==ghost;}")), "true");
    }

    /** "OBJECTS, at most 400 in a RUN"; "9 FULL (by 401 OBJECTS, at the CALL ..)". */
    private static void fourHundredObjects() {
        Trees x = Check.loaded(100, "function main(a,b){i=0;while(i<a){o=new();o.p=i;i=i+1;}return i;}");
        for (int run = 0; run < 2; run++) {
            x.start(400, 0);
            x.run(20001);
            Check.due("400", Check.outcome(x), "400");
            Check.due("objects", x.total(3), 400);
            x.start(401, 0);
            Check.due("none of the new run", x.total(3), 0);
            x.run(20001);
            Check.due("401", Check.outcome(x), "E9@9");
            Check.due("objects", x.total(3), 400);
        }
    }

    /** "with at most 12 PROPERTIES (a STRING each)"; "9 for a 13th PROPERTY". */
    private static void twelveProperties() {
        String fill = "o=new();i=0;while(i<12){o[\"k\"+i]=i;i=i+1;}";
        Check.says(fill + "return o.k0+o.k11;", "11");
        Check.says(fill + "o.k0=\"x\";o.k11=\"y\";return o.k0+o.k11+o.k5;", "xy5");
        Check.says(fill + "o.z=1;", "E9@21");
        Check.says(fill + "o[\"k12\"]=1;", "E9@21");
        Check.says("o=new();i=0;while(i<11){o[\"k\"+i]=i;i=i+1;}return o.z=3;", "3");
        Check.says("o=new();o[\"\"]=1;o[\" \"]=2;return o[\"\"]+o[\" \"];", "3");
        // A PROPERTY may have as many letters as a STRING.
        Check.says(makes(200) + "o=new();o[s]=4;return o[t+t+t+t+t];", "4");
    }

    /** "define (its ARG is a TEXT: ERROR 11 if it is no STRING or has a FAULT ..)". */
    private static void textsOfDefine() {
        for (String wrong : new String[] {"1", "100000000000000000000", "true", "null", "main", "new()", ""}) {
            Check.says("define(" + wrong + ");", "E11@2");
        }
        for (String wrong : new String[] {"", " ", "x", "function", "function f(){", "function f(){}}", "function f(){$}",
            "function f(){}function f(){}", "function f(a,a){}", "function f(){break;}", "function f(a,b,c,d,e,g,h){}",
            "function f(){" + Check.times("(", 20), "//function f(){}"}) {
            Check.says("define(\"" + wrong + "\");", "E11@2");
        }
        Check.says("define(\"function f(){return 6;}//\");return f();", "6");
        Check.says("define(\"function f(){return 6;}\",1,null);return f();", "6");
        // 200 letters: 160 of t, then the last one is the closing sign.
        String t = "t=\"                                        \";";
        Check.says(t + "define(t+t+t+t+\"        function f(x){return x+1234567;}\");return f(1);", "1234568");
        Check.says(t + "define(t+t+t+t+\"         function f(x){return x+1234567;\");return f(1);", "E11@4");
        Trees x = Check.ran("function main(){define(1);}");
        Check.due("the fault of load stays", x.fault(0), 0);
    }

    /** "ARGS that are missing are null; those that are too many are worked out, and no more." */
    private static void missingAndTooManyArgs() {
        String f = "function f(a,b){return \"\"+a+b;}function z(){return 1;}function main(a,b,c,d){return ";
        Check.due("none", Check.outcome(Check.ran(f + "f();}")), "nullnull");
        Check.due("one", Check.outcome(Check.ran(f + "f(1);}")), "1null");
        Check.due("two", Check.outcome(Check.ran(f + "f(1,2);}")), "12");
        Check.due("three", Check.outcome(Check.ran(f + "f(1,2,3);}")), "12");
        Check.due("all are worked out", Check.outcome(Check.ran(f + "f(1,2,x=3)+x;}")), "123");
        Check.due("by an error too", Check.outcome(Check.ran(f + "z(1/0);}")), "E2@7");
        Check.due("of main", Check.outcome(Check.ran(f + "\"\"+a+b+c+d;}")), "34nullnull");
        Check.due("main of one", Check.outcome(Check.ran("function main(a){return a;}")), "3");
        Check.due("main of none", Check.outcome(Check.ran("function main(){return 1;}")), "1");
        Check.says("print();print(1,2/1);return kind()+kind(1,null)+kind(new(1,2));", "nullnumberobject");
        Check.says("print(1,2/0);", "E2@5");
        Check.due("the first alone", Check.out(Check.ran("function main(){print();print(7,8);}")), "null\n7\n");
    }

    /** "if one side at least is a STRING: both SHOWN .. (ERROR 1 if one is a FUNCTION or OBJECT)". */
    private static void joinedValues() {
        Check.says("return \"a\"+\"\";", "a");
        Check.says("return \"\"+\"\";", "");
        Check.says("return \"\"+(0-0)+(0-10)+100000000000000000000+(0-100000000000000000000);",
                "0-10100000000000000000000-100000000000000000000");
        Check.says("return \"\"+true+false+null;", "truefalsenull");
        Check.says("return \"a\"+main;", "E1@3");
        Check.says("return main+\"a\";", "E1@3");
        Check.says("return \"a\"+new();", "E1@3");
        Check.says("return new()+\"a\";", "E1@3");
    }

    private static final String[] VALUES = {"1", "100000000000000000000", "\"s\"", "true", "null", "main", "new()"};
    private static final int BIG = 1;
    private static final int STRING = 2;
    private static final int TRUTH = 3;
    private static final int FUNCTION = 5;
    private static final int OBJECT = 6;

    /** "(ERROR 1 for what isn't so: at the NODE.)": each sign with VALUES of each two KINDS. */
    private static void operandsOfEachKind() {
        for (String sign : "+ - * / < <= > >= == != && ||".split(" ")) {
            for (int i = 0; i < VALUES.length; i++) {
                for (int j = 0; j < VALUES.length; j++) {
                    Check.says("return kind(" + VALUES[i] + sign + VALUES[j] + ");", kindOf(sign, i, j));
                }
            }
        }
        for (int i = 0; i < VALUES.length; i++) {
            Check.says("return kind(!" + VALUES[i] + ");", i == TRUTH ? "truth" : "E1@5");
            Check.says("if(" + VALUES[i] + "){return 1;}", i == TRUTH ? "1" : "E1@2");
            Check.says("while(" + VALUES[i] + "){return 1;}", i == TRUTH ? "1" : "E1@2");
            Check.says("o=" + VALUES[i] + ";o.p=1;return o.p;", i == OBJECT ? "1" : "E4@4");
            Check.says("o=new();o[" + VALUES[i] + "]=1;return o.s;", i == STRING ? "1" : "E1@5");
            Check.says("o=new();o.s=1;return o[" + VALUES[i] + "];", i == STRING ? "1" : "E1@9");
            Check.says("f=" + VALUES[i] + ";if(a==3){return f(9,9);}return a;",
                    i == FUNCTION ? "9" : i == OBJECT ? "E6@10" : "E6@9");
        }
    }

    private static String kindOf(String sign, int i, int j) {
        if (!fits(sign, i, j)) {
            return "E1@5";
        }
        if (!"+-*/".contains(sign)) {
            return "truth";
        }
        if (sign.equals("*") && i == BIG && j == BIG) {
            return "E8@5";
        }
        return i == STRING || j == STRING ? "string" : "number";
    }

    private static boolean fits(String sign, int i, int j) {
        switch (sign) {
            case "==": case "!=": return true;
            case "&&": return i == TRUTH && j == TRUTH;
            // true || makes the right side no matter.
            case "||": return i == TRUTH;
            default: break;
        }
        boolean numbers = i < STRING && j < STRING;
        boolean joins = sign.equals("+") && (i == STRING || j == STRING) && i < FUNCTION && j < FUNCTION;
        return numbers || joins;
    }

    /** "/ towards 0, by 0 ERROR 2". */
    private static void divisors() {
        Check.says("return 1/0;", "E2@3");
        Check.says("return 0/0;", "E2@3");
        Check.says("x=100000000000000000000;return 1/(x-x);", "E2@5");
        Check.says("x=100000000000000000000;return x/0;", "E2@5");
        Check.says("x=100000000000000000000;return x/(x-x);", "E2@5");
        Check.says("return null/0;", "E1@3");
        Check.says("return 0/1+\" \"+0/(0-1)+\" \"+1/(0-1);", "0 0 -1");
        Check.says("return 7/2+\" \"+(0-7)/2+\" \"+7/(0-2)+\" \"+(0-7)/(0-2);", "3 -3 -3 3");
        Check.says("x=100000000000000000000;return x/(x-1)+\" \"+(0-x)/(x-1)+\" \"+(x-1)/x+\" \"+(1-x)/x;", "1 -1 0 0");
    }

    /** "the right one is worked out only if it matters, and is a truth". */
    private static void onlyIfItMatters() {
        Check.says("return false&&1/0;", "false");
        Check.says("return true||1/0;", "true");
        Check.says("return true&&1/0;", "E2@5");
        Check.says("return false||1/0;", "E2@5");
        Check.says("return true&&1;", "E1@3");
        Check.says("return false||1;", "E1@3");
        Check.says("return (true&&false)+\"\"+(true&&true)+(false||true)+(false||false);", "falsetruetruefalse");
    }

    /** "== of all: .. truths by what they are": wherever they come from. */
    private static void truthsAreWhatTheyAre() {
        String[] falses = {"false", "!true", "1>2", "2<=1", "1>=2", "2<1", "1==2", "1!=1", "\"a\"==\"b\"", "true&&false",
            "false||false", "!!false", "9223372036854775808<1"};
        String[] trues = {"true", "!false", "2>1", "1<=1", "2>=1", "1<2", "1==1", "1!=2", "\"a\"==\"a\"", "true&&true",
            "false||true", "!!true", "9223372036854775808>1"};
        for (int i = 0; i < falses.length; i++) {
            Check.says("return ((" + falses[i] + ")==false)+\"\"+((" + falses[i] + ")!=true)+(" + falses[i] + ");",
                    "truetruefalse");
            Check.says("return ((" + trues[i] + ")==true)+\"\"+((" + trues[i] + ")!=false)+(" + trues[i] + ");",
                    "truetruetrue");
            Check.says("if(" + falses[i] + "){return 1;}if(" + trues[i] + "){return 2;}", "2");
        }
    }

    /** "What = sets is what the WRITE or PUT gives." */
    private static void whatEqualsGives() {
        String[] values = {"5", "100000000000000000000", "\"s\"", "true", "false", "null", "main", "new()"};
        for (String value : values) {
            String shown = value.equals("new()") ? "{}" : value.replace("\"", "");
            Check.says("return x=" + value + ";", shown);
            Check.says("o=new();return o.p=" + value + ";", shown);
            Check.says("o=new();return o[\"p\"]=" + value + ";", shown);
            Check.says("o=new();x=o.q=y=o.p=" + value + ";return o.p==x&&o.q==y&&x==y;", "true");
        }
    }

    /** "A LOCAL that was not set is null."; "RETURN without E, and a BLOCK's end: null." */
    private static void unsetLocalsAndEnds() {
        Check.says("return x;x=1;", "null");
        Check.says("return x==null;if(false){x=1;}", "true");
        Check.says("return;", "null");
        Check.says("", "null");
        Check.says("1;", "null");
        Check.says("if(true){}", "null");
    }

    /** "GET: of an OBJECT (4) the PROPERTY that NAME or E, a STRING (1), tells (5 without it)." */
    private static void getsInOrder() {
        Check.says("1[2];", "E4@2");
        Check.says("1[2/0];", "E2@4");
        Check.says("o=new();o[2];", "E1@5");
        Check.says("o=new();o[\"p\"];", "E5@5");
        Check.says("o=new();o.p;", "E5@5");
        Check.says("o=new();o[\"\"];", "E5@5");
        Check.says("o=new();o[\"null\"];", "E5@5");
        Check.says("o=new();o.p=1;o.P;", "E5@8");
        Check.says("o=new();o.pp=1;o.p;", "E5@8");
        Check.says("o=new();o.p=1;o.pp;", "E5@8");
        Check.says("o=new();o.p=null;return o.p;", "null");
    }

    /** "PUT: likewise, all three worked out first: 4, 1, and 9 for a 13th PROPERTY." */
    private static void putsInOrder() {
        Check.says("1[2]=3;", "E4@2");
        Check.says("1[2]=3/0;", "E2@5");
        Check.says("1[2/0]=3;", "E2@4");
        Check.says("1 .p=1/0;", "E2@4");
        Check.says("o=new();o[2]=1;", "E1@5");
        Check.says("o=new();o[2]=1/0;", "E2@8");
        String fill = "o=new();i=0;while(i<12){o[\"k\"+i]=i;i=i+1;}";
        Check.says(fill + "o[1]=1;", "E1@21");
        Check.says(fill + "o.z=1/0;", "E2@23");
    }

    /** "CALL: what is ahead, then the ARGS, are worked out; it must be a FUNCTION (6), DEFINED (3); DEEP (7)". */
    private static void callsInOrder() {
        Check.says("1();", "E6@2");
        Check.says("1(2/0);", "E2@4");
        Check.says("ghost(2/0);", "E2@4");
        Check.says("ghost();", "E3@2");
        Check.says("(1/0)(2());", "E2@3");
        // As the 60th call: 6 and 3 come ahead of 7.
        String deep = "function f(n){if(n>1){f(n-1);}else{%;}}function main(){f(58);return 1;}";
        Check.due("6", Check.outcome(Check.ran(deep.replace("%", "1()"))), "E6@10");
        Check.due("3", Check.outcome(Check.ran(deep.replace("%", "ghost()"))), "E3@10");
        Check.due("7", Check.outcome(Check.ran(deep.replace("%", "f(1)"))), "E7@10");
        Check.due("an arg's error", Check.outcome(Check.ran(deep.replace("%", "f(1/0)"))), "E2@12");
    }

    /** "DEEP (7) is a call within 59 others that have not come back (main's is the first; also of a FUNCTION that is
     * there from the beginning)". */
    private static void deepCalls() {
        String deep = "function f(n){if(n>1){f(n-1);f(1);}else{%;}}function main(a,b){f(a);return 1;}";
        for (String last : new String[] {"print(1)", "new()", "kind(1)", "define(\"function g(){}\")", "z()"}) {
            Trees x = Check.loaded(100, (deep + "function z(){}").replace("%", last).replace("f(1);", ""));
            x.start(57, 0);
            x.run(20001);
            Check.due(last + " as the 59th", Check.outcome(x), "1");
            Check.due("the most", x.total(2), last.equals("z()") ? 59 : 58);
            x.start(58, 0);
            x.run(20001);
            Check.due(last + " as the 60th", Check.outcome(x), "E7@10");
            Check.due("the most", x.total(2), 59);
        }
        // What has come back is not counted.
        Trees x = Check.loaded(100, deep.replace("%", "1"));
        x.start(58, 0);
        x.run(20001);
        Check.due("58 within main", Check.outcome(x), "1");
        Check.due("the most", x.total(2), 59);
        x.start(59, 0);
        x.run(20001);
        Check.due("59 within main", Check.outcome(x), "E7@5");
        Check.due("calls of both runs, not the last", x.total(14), (1 + 58 + 57) + 59);
        Check.due("where it is", x.error(1), 4);
    }

    /** "8 .. (.. print, kind, define never)". */
    private static void neverTooGreat() {
        Trees x = Check.ran("function main(){" + makes(200) + "print(s);print(0-" + NINES + ");return kind(s);}");
        Check.due("outcome", Check.outcome(x), "string");
        Check.due("letters", x.total(4), 201 + 38);
        Check.due("the last letter of the string", x.out(199), 's');
        Check.due("its line's end", x.out(200), 10);
        Check.due("the number's sign", x.out(201), '-');
        Check.due("the number's end", x.out(238), 10);
    }

    /** "By an ERROR of a NODE nothing of it is done": what is within it stays done. */
    private static void nothingIsDone() {
        Trees x = Check.ran("function main(){print(1);print(2)+print(1/0);}");
        Check.due("out", Check.out(x), "1\n2\n");
        x = Check.ran("function main(){o=new();i=0;while(i<12){o[\"k\"+i]=i;i=i+1;}o[\"z\"]=1;}");
        Check.due("no shape of the put", x.total(6), 13);
        x = Check.ran("function main(){define(\"function g(){}function g(){}\");}");
        Check.due("no root of the define", x.total(5), 5);
        x = Check.ran("function main(){1(print(3));}");
        Check.due("what is within it", Check.out(x), "3\n");
        Check.due("calls", x.total(14), 2);
    }

    /** "61 ROOTS": "at most 60 (for define: all that it would bring, or ERROR 9)". */
    private static void sixtyRoots() {
        String text = "function main(a,b){i=0;while(i<a){define(\"function f\"+i+\"(){}\");i=i+1;}"
                + "if(b==2){define(\"function x(){}function y(){}\");}return i;}";
        Trees x = Check.loaded(100, text);
        x.start(55, 0);
        x.run(20001);
        Check.due("60 roots", Check.outcome(x), "55");
        Check.due("roots", x.total(5), 60);
        Check.due("the last", x.root(59, 6), 1);
        Check.due("none behind it", x.root(60, 6), GraftTrees.NONE);
        x.start(1, 0);
        x.run(20001);
        Check.due("the 61st", Check.outcome(x), "E9@8");
        Check.due("roots", x.total(5), 60);
        Check.due("f0 is what it was", x.root(5, 6), 1);
        // A TEXT with a FAULT would bring none.
        x = Check.ran("function main(){i=0;while(i<55){define(\"function f\"+i+\"(){}\");i=i+1;}"
                + "define(\"function g(){}$\");}");
        Check.due("a fault when all are there", Check.outcome(x), "E11@17");
        x = Check.loaded(100, text);
        x.start(53, 2);
        x.run(20001);
        Check.due("58 and two", Check.outcome(x), "53");
        Check.due("roots", x.total(5), 60);
        x = Check.loaded(100, text);
        x.start(54, 2);
        x.run(20001);
        Check.due("59 and two", x.error(0), 9);
        Check.due("none of them comes", x.total(5), 59);
    }
}
