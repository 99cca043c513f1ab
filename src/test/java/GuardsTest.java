/** GUARDS of a CODE, NODE by NODE: each method has one part of the sentence of chapter IV that tells them. */
final class GuardsTest {
    private static final int NONE = GraftTrees.NONE;

    public static void main(String[] args) {
        sides();
        sureSides();
        otherStates();
        branches();
        params();
        writes();
        reads();
        entries();
        others();
        guardsOfUnits();
        Check.end("GuardsTest");
    }

    /** main's CODE as it is made when main has been run with each of the pairs. */
    private static void guards(String text, int want, long... args) {
        Trees x = Check.loaded(1, text);
        for (int i = 0; i < args.length; i += 2) {
            x.start(args[i], args[i + 1]);
            x.run(20001);
            Check.due("it came to its end", x.state(), 2);
        }
        Check.due("main", x.compile(), 4);
        Check.due("guards of " + text, x.code(0, 4), want);
    }

    private static final String F = "function f(){return 1;}";

    /** "+ - * / < <= > >= == != : with STATE 1 alone one for each side that is not SURE". */
    private static void sides() {
        for (String sign : "+ - * / < <= > >= == !=".split(" ")) {
            // f's CALL has one GUARD of its own; f, as a UNIT, has none.
            guards("function main(){1" + sign + "2;}" + F, 0, 0, 0);
            guards("function main(){f()" + sign + "2;}" + F, 1 + 1, 0, 0);
            guards("function main(){1" + sign + "f();}" + F, 1 + 1, 0, 0);
            guards("function main(){f()" + sign + "f();}" + F, 2 + 2, 0, 0);
            guards("function main(){(1+2*3)" + sign + "(4-3/1);}" + F, 0, 0, 0);
            guards("function main(){(1+2*3)" + sign + "f();}" + F, 1 + 1, 0, 0);
            guards("function main(){f()" + sign + "(1+2*3);}" + F, 1 + 1, 0, 0);
            guards("function main(){1" + sign + "(f()+1);}" + F, 1 + 1, 0, 0);
            guards("function main(){(f()+1)" + sign + "(2+f());}" + F, 2 + 2, 0, 0);
            guards("function main(){8;return 1;1" + sign + "2;}" + F, 1, 0, 0);
        }
    }

    /** "SURE are a NUMBER that is LONG, + - * / with STATE 1 alone, READ with STATE 1 alone." */
    private static void sureSides() {
        for (String sure : new String[] {"1", "9223372036854775807", "(1+2)", "(1-2)", "(1*2)", "(1/2)"}) {
            guards("function main(){" + sure + "<1;1<" + sure + ";}", 0, 0, 0);
        }
        // A READ has a GUARD of its own unless its STATE is 4, and is SURE by 1 alone.
        guards("function main(){x=1;x<1;1<x;}", 2, 0, 0);
        guards("function main(){x=null;x=1;x<1;1<x;}", 2, 0, 0);
        // What is BIG makes another STATE.
        guards("function main(){9223372036854775808<1;}", 1, 0, 0);
        guards("function main(){(9223372036854775807+1)<1;}", 2, 0, 0);
        // + with 1 and 4 is not SURE; the < ends the second RUN by an ERROR.
        Trees x = Check.loaded(1, "function main(a,b){x=a;if(b==0){x=\"s\";}(x+1)<2;}");
        for (int b = 1; b >= 0; b--) {
            x.start(1, b);
            x.run(20001);
        }
        Check.due("error", x.error(0), 1);
        Check.due("main", x.compile(), 4);
        // PARAMS, READS of a and b, the left side of < , +
        Check.due("guards", x.code(0, 4), 2 + 2 + 1 + 1);
    }

    /** "with another STATE one, with 0 one". */
    private static void otherStates() {
        guards("function main(){9223372036854775807+1;}", 1, 0, 0);
        guards("function main(){\"a\"+\"b\";}", 1, 0, 0);
        guards("function main(){true==false;}", 1, 0, 0);
        guards("function main(){\"a\"==\"b\";}", 1, 0, 0);
        guards("function main(){null==null;}", 1, 0, 0);
        guards("function main(){i=0;while(i<2){k(i)+1;i=i+1;}}function k(i){if(i==0){return 1;}return \"s\";}",
                // < 0, READ 1, WHILE 0; CALL 1, READ 1, + with 5 one; READ 1; k: PARAM 1, IF 0, READ 1
                1 + 1 + 1 + 1 + 1 + 1 + 1, 0, 0);
    }

    /** "&& || IF WHILE: one, unless the STATE is 3". */
    private static void branches() {
        String[] bodies = {"a==1&&true;", "a==1||true;", "if(a==1){}", "while(a==1){a=2;}", "if(a==1){}else{}"};
        for (String body : bodies) {
            String text = "function main(a,b){" + body + "}";
            // Two of the PARAMS, one of the READ.
            boolean loop = body.startsWith("while");
            guards(text, loop ? 3 : 4, 1, 0);
            guards(text, 4 + (loop ? 1 : 0), 0, 0);
            guards(text, 3, 0, 0, 1, 0);
        }
        guards("function main(a,b){return 1;true&&true;true||true;if(true){}while(true){}}", 2 + 4, 0, 0);
    }

    /** "PARAM ..: with STATE 1 one .. (a PARAM's never is), with 2 or 0 one". */
    private static void params() {
        guards("function main(a,b){}", 2, 0, 0);
        guards("function main(a,b,c){}", 2, 0, 0);
        guards("function main(){f(true,1,null);}function f(a,b,c){}", 1 + 2, 0, 0);
    }

    /** "WRITE: with STATE 1 one if what it gets is not SURE .., with 2 or 0 one". */
    private static void writes() {
        guards("function main(){x=1;}", 0, 0, 0);
        guards("function main(){x=1+2;}", 0, 0, 0);
        guards("function main(){x=f();}" + F, 1 + 1, 0, 0);
        guards("function main(){x=y=1;}", 1, 0, 0);
        guards("function main(){x=true;}", 1, 0, 0);
        guards("function main(){x=null;}", 0, 0, 0);
        guards("function main(){x=\"s\";}", 0, 0, 0);
        guards("function main(){return 1;x=1;}", 1, 0, 0);
    }

    /** "READ: one, unless the STATE is 4". */
    private static void reads() {
        guards("function main(){x=1;x;}", 1, 0, 0);
        guards("function main(){x=true;x;}", 1 + 1, 0, 0);
        guards("function main(){x=null;x;}", 0, 0, 0);
        guards("function main(){x=1;return x;x;}", 2, 0, 0);
    }

    /** "GET, PUT, CALL: one for each ENTRY, one without any (an OPEN one too)". */
    private static void entries() {
        guards("function main(){return 1;f();x.y;x.y=1;}", 3, 0, 0);
        guards("function main(){kind(1);}", 1, 0, 0);
        guards("function main(){new().p=1;}", 1 + 1, 0, 0);
        // PARAMS, CALL of new, READS of b, PUTS of x, y, z; then IFS, READS of o in them, PUT and GET of p.
        String shapes = "function main(a,b){o=new();if(b>0){o.x=1;}if(b>1){o.y=1;}if(b>2){o.z=1;}o.p=1;o.p;}";
        int same = 2 + 1 + 3 + 3;
        guards(shapes, same + 3 + 3 + 1 + 1, 0, 0);
        guards(shapes, same + 2 + 2 + 2 + 2, 0, 0, 0, 1);
        guards(shapes, same + 1 + 1 + 3 + 3, 0, 0, 0, 1, 0, 2);
        guards(shapes, same + 0 + 0 + 1 + 1, 0, 0, 0, 1, 0, 2, 0, 3);
        String calls = "function main(a,b){f=g;if(b==1){f=h;}if(b==2){f=k;}f();}function g(){}function h(){}function k(){}";
        guards(calls, 2 + 2 + 2 + 2 + 1, 0, 0);
        guards(calls, 2 + 2 + 1 + 1 + 2, 0, 0, 0, 1);
        guards(calls, 2 + 2 + 0 + 0 + 1, 0, 0, 0, 1, 0, 2);
    }

    private static void others() {
        guards("function main(){1;\"s\";true;null;main;!true;while(true){break;}return;}", 1, 0, 0);
        guards("function main(){}", 0, 0, 0);
    }

    /** "for each NODE of a UNIT": of all UNITS together, as often as they are one. */
    private static void guardsOfUnits() {
        Trees x = Check.loaded(1, "function main(){f(1);f(2);}function f(n){g(n);}function g(n){n+1;}");
        x.start(0, 0);
        x.run(99);
        x.compile();
        x.compile();
        x.compile();
        // g: PARAM, READ; f: PARAM, READ, CALL; main: two CALLS
        Check.due("g", x.code(1 + 1, 4), 2);
        Check.due("f with g", x.code(1, 4), 3 + 2);
        Check.due("main with f, f, g, g", x.code(0, 4), 2 + 2 * (3 + 2));
        Check.due("no code 3", x.code(3, 4), NONE);
    }
}
