/** The tape, loading, how TEXTS are read and NODES numbered: promises 2, 3, 4 and 13. */
final class TextsTest {
    private static final int NONE = GraftTrees.NONE;

    public static void main(String[] args) {
        tape();
        loading();
        grammarFaults();
        numbering();
        numberingOfDefine();
        locals();
        Check.end("TextsTest");
    }

    private static void tape() {
        Trees x = new Trees(1);
        for (int i = 1; i <= 200; i++) {
            Check.due("feed " + i, x.feed(i, -i, 0, Integer.MIN_VALUE, Integer.MAX_VALUE), i * 20);
        }
        Check.due("feed 201", x.feed(0, 0, 0, 0, 0), NONE);
        Check.due("load of more than there is", x.load(4001), -2);
        Check.due("load below 0", x.load(-1), -2);
        Check.due("the tape stays by that", x.feed(0, 0, 0, 0, 0), NONE);
        Check.due("load", x.load(4000), NONE);
        Check.due("fault", x.fault(0), 1);
        Check.due("the tape is empty then", x.feed(0, 0, 0, 0, 0), 20);
        // The highest byte of each number comes first.
        Trees y = new Trees(1);
        Check.feed(y, " \n//x\nfunction f(){} ");
        Check.due("load", y.load(20), 5);
    }

    private static void loading() {
        Trees x = Check.loaded(1, "function main(a){x=new();x.p=1;return a+1;}function g(){}");
        Check.due("roots", x.total(5), 6);
        Check.due("fault 0", x.fault(0), 0);
        Check.due("fault 1", x.fault(1), NONE);
        Check.due("fault 2", x.fault(2), NONE);
        Check.due("fault -1", x.fault(-1), NONE);
        x.start(1, 2);
        x.run(2);
        int heat = x.root(4, 2);
        Check.feed(x, "function main(){ }}");
        Check.due("a load with a fault", x.load(19), NONE);
        Check.due("its number", x.fault(0), 2);
        Check.due("its place", x.fault(1), 18);
        Check.due("no run", x.state(), 0);
        Check.due("steps of no run", x.total(0), 0);
        Check.due("objects of no run", x.total(3), 0);
        Check.due("what was stays: roots", x.total(5), 6);
        Check.due("heat", x.root(4, 2), heat);
        Check.due("shapes", x.total(6), 2);
        Check.due("calls", x.total(14), 2);
        Check.due("a load that does not happen", x.load(100), -2);
        Check.due("the fault of the latest load stays", x.fault(0), 2);
        Check.feed(x, "function g(){}function print(){}");
        Check.due("load", x.load(32), 6);
        Check.due("fault", x.fault(0), 0);
        for (int what = 9; what <= 15; what++) {
            Check.due("total " + what + " is gone", x.total(what), 0);
        }
        Check.due("shapes are gone", x.total(6), 1);
        Check.due("the queue is gone", x.total(8), 0);
        Check.due("print of the beginning is the newest no more", x.root(0, 6), 0);
        Check.due("the other is", x.root(5, 6), 1);
        Check.due("no main", x.start(1, 1), false);
        Check.feed(x, "function g(){}");
        x.load(14);
        Check.due("print is the newest again", x.root(0, 6), 1);
        freshNodes();
    }

    /** A ROOT has nothing of the one that had its number before. */
    private static void freshNodes() {
        String text = "function main(a,b){o=new();o.p=1;i=0;while(i<3){i=i+a;}return o.p;}";
        Trees x = Check.loaded(1, text);
        x.start(1, 0);
        x.run(99);
        Check.due("compile", x.compile(), 4);
        x.start(1, 0);
        x.run(9);
        Check.due("load", x.load(Check.feed(x, text)), 5);
        for (int k = 0; k < x.root(4, 0); k++) {
            Check.due("state of " + k, x.node(4, k, 2), 0);
            Check.due("changes of " + k, x.node(4, k, 3), 0);
            int kind = x.node(4, k, 0);
            Check.due("entries of " + k, x.node(4, k, 4), kind >= 21 && kind <= 23 ? 0 : NONE);
        }
        int[] wanted = {0, NONE, 0, NONE, 1, 0};
        for (int what = 2; what < 8; what++) {
            Check.due("root what " + what, x.root(4, what), wanted[what - 2]);
        }
        for (int what = 10; what < 14; what++) {
            Check.due("sort " + what, x.root(4, what), 0);
        }
        Check.due("code", x.code(0, 0), NONE);
        Check.due("shape 1", x.shape(1, 0), NONE);
        x.start(1, 0);
        x.run(99);
        Check.due("it says the same", Check.outcome(x), "1");
        x.load(Check.feed(x, "function f(){1;}function g(){2;}function h(){3;}"));
        x.load(Check.feed(x, "function f(){1;}"));
        Check.due("a root that is gone", x.root(5, 0), NONE);
        Check.due("its node", x.node(5, 0, 0), NONE);
    }

    private static void grammarFaults() {
        Check.faulty("", 2, 0);
        Check.faulty("  ", 2, 2);
        Check.faulty("x", 2, 0);
        Check.faulty("function", 2, 8);
        Check.faulty("function if(){}", 2, 9);
        Check.faulty("function f({}", 2, 11);
        Check.faulty("function f(a,){}", 2, 13);
        Check.faulty("function f(a b){}", 2, 13);
        Check.faulty("function f(){", 2, 13);
        Check.good("function f(){}//");
        Check.faulty("function f(){} f", 2, 15);
        Check.faulty("function f(){}}", 2, 14);
        Check.goodBody("if(a){}else{}");
        Check.faultyBody("if(a){}else if(b){}", 2, 12);
        Check.faultyBody("if a {}", 2, 3);
        Check.faultyBody("if(a) b;", 2, 6);
        Check.faultyBody("while(){}", 2, 6);
        Check.faultyBody("else{}", 2, 0);
        Check.goodBody("return;");
        Check.faultyBody("return", 2, 6);
        Check.faultyBody("return a b;", 2, 9);
        Check.faultyBody("break", 5, 0);
        Check.faultyBody("while(a){break}", 2, 14);
        Check.faultyBody("a", 2, 1);
        Check.faultyBody(";", 2, 0);
        Check.faultyBody("a==b==c;", 2, 4);
        Check.faultyBody("a<b<c;", 2, 3);
        Check.goodBody("a<b==c<b;");
        Check.faultyBody("a==b!=c;", 2, 4);
        Check.goodBody("(a==b)==c;");
        Check.goodBody("a+b-c*a/b&&c||a&&b;");
        Check.faultyBody("-1;", 2, 0);
        Check.faultyBody("a+;", 2, 2);
        Check.faultyBody("a.;", 2, 2);
        Check.faultyBody("a.if;", 2, 2);
        Check.faultyBody("a.1;", 2, 2);
        Check.faultyBody("a[];", 2, 2);
        Check.faultyBody("a[1;", 2, 3);
        Check.faultyBody("f(,a);", 2, 2);
        Check.faultyBody("f(a,);", 2, 4);
        Check.faultyBody("f(a;", 2, 3);
        Check.faultyBody("(a;", 2, 2);
        Check.faultyBody("();", 2, 1);
        Check.faultyBody("!;", 2, 1);
        Check.goodBody("!!a;");
        Check.faultyBody("a / / b;", 2, 4);
    }

    /** The KINDS of a ROOT's NODES and the places of their TOKENS. */
    private static void nodes(String text, int root, String want) {
        Trees x = Check.loaded(1, text);
        StringBuilder all = new StringBuilder();
        for (int k = 0; k < x.root(root, 0); k++) {
            all.append(k == 0 ? "" : " ").append(x.node(root, k, 0)).append('@').append(x.node(root, k, 1));
        }
        Check.due("nodes of " + text, all.toString(), want);
        Check.due("no such node", x.node(root, x.root(root, 0), 0), NONE);
    }

    private static void numbering() {
        nodes("function f(){}", 4, "");
        nodes("function f(a,b){a+b*2;}", 4, "0@11 0@13 8@17 5@16 10@19 5@18 1@20");
        nodes("function f(a){a-1-2;}", 4, "0@11 9@17 9@15 5@14 1@16 1@18");
        nodes("function f(){a=b=\"s\";c.d=a.e;}", 4, "6@13 6@15 2@17 22@22 7@21 21@26 5@25");
        nodes("function f(o){o[1][2]=null;}", 4, "0@11 22@18 21@15 5@14 1@16 1@19 4@22");
        nodes("function f(o){g(1,o.p)(2);}", 4, "0@11 23@22 23@15 7@14 1@16 21@19 5@18 1@23");
        nodes("function f(){if(a<1){b;}else{c;}}", 4, "24@13 12@17 7@16 1@18 7@21 7@29");
        nodes("function f(){while(true){break;continue;}return;}", 4, "25@13 3@19 27@25 28@31 26@41");
        nodes("function f(){return !(a||b&&c);}", 4, "26@13 20@20 19@23 7@22 18@26 7@25 7@28");
        nodes("function f(){a<1;a<=1;a>1;a>=1;a==1;a!=1;a/1;false;}", 4,
                "12@14 7@13 1@15 13@18 7@17 1@20 14@23 7@22 1@24 15@27 7@26 1@29 16@32 7@31 1@34 17@37 7@36 1@39"
                        + " 11@42 7@41 1@43 3@45");
        nodes("function g(x){x;}function f(y){y;}", 5, "0@28 5@31");
    }

    /** The places of what define brings are those of its own TEXT. */
    private static void numberingOfDefine() {
        Trees x = Check.ran("function main(){define(\" function g(x){1;}function h(){2+3;}\");}");
        Check.due("roots", x.total(5), 7);
        Check.due("g is the first", x.root(5, 30), 'g');
        Check.due("h is the second", x.root(6, 30), 'h');
        Check.due("the param of g", x.node(5, 0, 1), 12);
        Check.due("the number of g", x.node(5, 1, 1), 15);
        Check.due("the + of h", x.node(6, 0, 1), 32);
        Check.due("nodes of h", x.root(6, 0), 3);
    }

    private static void locals() {
        // b is a LOCAL though it is read ahead of its = ; what is behind a . is none.
        Trees x = Check.loaded(1, "function f(a){b;c;a.d=1;b=e=2;}");
        Check.due("locals", x.root(4, 1), 3);
        Check.due("kind of b", x.node(4, 1, 0), 5);
        Check.due("local of b", x.node(4, 1, 11), 1);
        Check.due("kind of c", x.node(4, 2, 0), 7);
        Check.due("local of c", x.node(4, 2, 11), NONE);
        Check.due("local of the param", x.node(4, 0, 11), 0);
        Check.due("local of the first write", x.node(4, 6, 11), 1);
        Check.due("local of the second write", x.node(4, 7, 11), 2);
        Check.due("local of a put", x.node(4, 3, 11), NONE);
    }
}
