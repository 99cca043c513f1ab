/** Nothing of what was before a load() or a start() is left behind it, and there is place for all that may come. */
final class ReloadTest {
    private static final int NONE = GraftTrees.NONE;

    public static void main(String[] args) {
        asOfNewObject();
        functionsOfEarlierTexts();
        loopsOfFaultyTexts();
        shapesOfEarlierTexts();
        manyLongDefines();
        manyNames();
        manyTokens();
        manyWhiles();
        manyValuesThatWait();
        manyRunsByError();
        localsOfEarlierCalls();
        propertiesOfEarlierRuns();
        Check.end("ReloadTest");
    }

    private static final String BUSY = "function main(a,b){o=new();o.p=a;o.q=b;i=0;while(i<4){i=i+1;f(o,i);g(o)+h(i)(i);}"
            + "if(a==2){o.p=null;}f(o,\"s\");define(\"function h(n){return f;}\");return o.p;}"
            + "function f(o,n){o.p=n;o.r=n;return o.p==n;}function g(o){return \"\"+o.p;}function h(n){return k;}"
            + "function k(n){if(n>2){return n*9223372036854775807;}return n;}";
    private static final String OTHER = "function f(o){o.p=1;o.q=2;return o;}function g(n){return n+1;}"
            + "function main(a,b){x=f(new());y=f(new());i=0;while(i<3){i=g(i);y.q=i;}if(b==1){y.q=true;}return x.q;}";

    private static void play(Trees x, String text) {
        x.load(Check.feed(x, text));
        for (int i = 0; i < 3; i++) {
            x.start(i, 1);
            x.run(9);
            x.compile();
            x.run(20001);
            x.compile();
            x.compile();
        }
        x.start(1, 0);
        x.run(17);
    }

    /** Of a part of what there is to ask: an object has 512 calls. */
    private static String answers(Trees x, int part) {
        StringBuilder all = new StringBuilder();
        for (int what = 0; what < 16; what++) {
            all.append(x.total(what)).append(' ');
        }
        if (part == 0) {
            for (int r = 0; r < 8; r++) {
                for (int what = 0; what < 34; what++) {
                    all.append(x.root(r, what)).append(' ');
                }
            }
        }
        for (int k = 0; k < 8 && part > 0 && part < 6; k++) {
            for (int what = 2; what < 12; what++) {
                all.append(x.node(4, (part - 1) * 8 + k, what)).append(' ').append(x.node(5, (part - 1) * 8 + k, what))
                        .append(' ');
            }
        }
        for (int s = 0; s < 12 && part == 6; s++) {
            for (int what = 0; what < 8; what++) {
                all.append(x.shape(s, what)).append(' ').append(x.code(s, what)).append(' ');
            }
            all.append(x.code(s, 10 + s)).append(' ').append(x.frame(s, s)).append(' ');
        }
        return all.toString();
    }

    private static void asOfNewObject() {
        for (int part = 0; part < 7; part++) {
            for (String second : new String[] {BUSY, OTHER}) {
                for (String first : new String[] {BUSY, OTHER}) {
                    Trees fresh = new Trees(2);
                    play(fresh, second);
                    Trees used = new Trees(2);
                    play(used, first);
                    play(used, second);
                    Check.due("part " + part, answers(used, part), answers(fresh, part));
                }
            }
        }
    }

    private static void functionsOfEarlierTexts() {
        Trees x = Check.loaded(1, "function f(){return 1;}function g(){}function main(){}");
        x.load(Check.feed(x, "function main(){return f();}"));
        x.start(0, 0);
        x.run(9);
        Check.due("f is not defined any more", Check.outcome(x), "E3@1");
        x.load(Check.feed(x, "function print(x){return 5;}function main(){return print(1);}"));
        x.start(0, 0);
        x.run(9);
        Check.due("print is another one", Check.outcome(x), "5");
        x.load(Check.feed(x, "function main(){return print(1);}"));
        x.start(0, 0);
        x.run(9);
        Check.due("print is that of the beginning", Check.out(x), "1\n");
        x.load(Check.feed(x, "function f(){return main;}"));
        Check.due("main is not defined any more", x.start(0, 0), false);
    }

    private static void loopsOfFaultyTexts() {
        for (String leap : new String[] {"break", "continue"}) {
            Trees x = new Trees(1);
            Check.due("load", x.load(Check.feed(x, "function f(){while(a){$")), NONE);
            Check.due("load", x.load(Check.feed(x, "function f(){" + leap + ";}")), NONE);
            Check.due("fault", x.fault(0), 5);
        }
    }

    private static void shapesOfEarlierTexts() {
        Trees x = new Trees(1);
        for (int i = 0; i < 3; i++) {
            x.load(Check.feed(x, "function main(){o=new();o.a=1;o.b=1;o.c=1;o.a=null;p=new();p.b=1;}"));
            x.start(0, 0);
            x.run(99);
            Check.due("shapes", x.total(6), 8);
            Check.due("heir", x.shape(3, 2), 6);
            Check.due("moves", x.total(13), 1);
        }
    }

    private static final String FORTY = "                                        ";

    /** 55 TEXTS of 200 letters, again and again: no letter of them is lost. */
    private static void manyLongDefines() {
        Trees x = new Trees(1);
        String text = "function main(a,b){i=10;while(i<65){d=\".a.b.c.d.e.f.g.h.i.j.k.l.m.n.o.p.q.r.s.t\";"
                + "define(\"function g\"+i+\"(o){return o.p\"+i+\";o\"+d+d+d+d+\".zzzzzzz;}\");i=i+1;}"
                + "o=new();o.p10=5;o.p63=6;o.p64=7;return g10(o)*100+g63(o)*10+g64(o);}";
        for (int i = 0; i < 20; i++) {
            x.load(Check.feed(x, text));
            x.start(0, 0);
            x.run(20001);
            Check.due("outcome " + i, Check.outcome(x), "567");
            Check.due("roots", x.total(5), 60);
        }
        Check.due("the last property", x.shape(3, 4), 'p');
        Check.due("the last property", x.shape(3, 6), '4');
    }

    private static final String LETTERS = "abcdefghijklmnopqrstuvwxyzABCDEFGHIJKLMNO";

    /** Joins by halves, so that less is MADE. */
    private static String joined(int from, int to) {
        if (to - from == 1) {
            return "\"" + LETTERS.charAt(from) + "\"+s";
        }
        int middle = (from + to) / 2;
        return "(" + joined(from, middle) + ")+(" + joined(middle, to) + ")";
    }

    /** 55 TEXTS with 43 NAMES of their own each. */
    private static void manyNames() {
        Trees x = Check.ran("function main(a,b){i=10;while(i<65){s=i+\"+\";define(\"function g\"+i+\"(){return y\"+i+\";\"+("
                + joined(0, LETTERS.length()) + ")+\"a;}\");i=i+1;}"
                + "print(g10());print(g63());return g64();}");
        Check.due("out", Check.out(x), "y10\ny63\n");
        Check.due("outcome", Check.outcome(x), "y64");
        Check.due("roots", x.total(5), 60);
        Check.due("nodes of the last", x.root(59, 0), 2 + 2 * LETTERS.length() + 1);
    }

    /** A TEXT of as many TOKENS as it has bytes. */
    private static void manyTokens() {
        Check.faulty(Check.times("(", 4000), 2, 0);
        Check.faulty("function f(){}" + Check.times(";", 3986), 2, 14);
        String many = Check.times("a;", 300);
        StringBuilder text = new StringBuilder();
        for (int i = 0; i < 6; i++) {
            text.append("function f").append(i).append("(){").append(many).append('}');
        }
        Check.good(text.toString());
    }

    /** A FUNCTION of 150 WHILES, or of other NODES, is worked out up to its end. */
    private static void manyWhiles() {
        Trees x = Check.ran("function main(){" + Check.times("while(false){}", 149) + "return 7;}");
        Check.due("nodes", x.root(4, 0), 300);
        Check.due("outcome", Check.outcome(x), "7");
        Check.due("steps", x.total(0), 150);
        x = Check.ran("function main(){" + Check.times("if(true){}else{}", 149) + "return 7;}");
        Check.due("outcome", Check.outcome(x), "7");
        x = Check.ran("function main(){" + Check.times("1;", 298) + "return 7;}");
        Check.due("outcome", Check.outcome(x), "7");
        x = Check.ran("function main(){return false" + Check.times("||false", 148) + "||true;}");
        Check.due("outcome", Check.outcome(x), "true");
    }

    private static String waiting() {
        return "function g(a,b,c,d,e,f){return f;}function f(n){if(n<1){return 0/n;}"
                + "return g(1,1,1,1,1,1+(1+(1+(1+(1+(1+(1+(1+f(n-1)))))))));}";
    }

    /** Many VALUES wait in 58 ACTIVATIONS at one time. */
    private static void manyValuesThatWait() {
        Trees x = Check.ran(waiting().replace("0/n", "0") + "function main(){return f(56);}");
        Check.due("outcome", Check.outcome(x), "" + 56 * 8);
    }

    /** What waited as an ERROR came waits no more. */
    private static void manyRunsByError() {
        Trees x = Check.loaded(100, waiting() + "function main(a,b){if(a==1){return 9;}return f(56);}");
        for (int i = 0; i < 60; i++) {
            x.start(0, 0);
            x.run(20001);
            Check.due("error", x.error(0), 2);
        }
        x.start(1, 0);
        x.run(20001);
        Check.due("outcome", Check.outcome(x), "9");
    }

    /** "A LOCAL that was not set is null", whatever another ACTIVATION had there. */
    private static void localsOfEarlierCalls() {
        Check.due("of another function", Check.outcome(Check.ran("function f(){x=5;}function g(){return x;x=1;}"
                + "function main(){f();return g();}")), "null");
        Check.due("of the same", Check.outcome(Check.ran("function f(a,b){return b;}"
                + "function main(){f(1,2);return f(1);}")), "null");
        Check.due("too many args are no locals", Check.outcome(Check.ran("function f(a){return x;x=1;}"
                + "function main(){return f(1,2,3);}")), "null");
        Trees x = Check.loaded(100, "function main(a,b){if(a==1){x=5;}return x;}");
        x.start(1, 0);
        x.run(9);
        x.start(0, 0);
        Check.due("tag", x.frame(0, 12), 3);
        x.run(9);
        Check.due("of another run", Check.outcome(x), "null");
    }

    /** PROPERTIES stay as they are when what the RUN has MADE is gone. */
    private static void propertiesOfEarlierRuns() {
        Trees x = new Trees(100);
        String text = "function main(a,b){s=\"" + FORTY + "\";s=s+s+s+s;i=100;while(i<299&&a==0){o=new();"
                + "o[s+\"012345678901234567890123456789abcdefg\"+i]=1;i=i+1;}"
                + "while(i<400){s+\"xxxxxxxxxxxxxxxxxxxxxxxxxxxxxxxxxxxxxxxx\";i=i+1;}}";
        for (int load = 0; load < 3; load++) {
            Check.due("load", x.load(Check.feed(x, text)), 5);
            x.start(0, 0);
            x.run(20001);
            Check.due("shapes", x.total(6), 200);
            x.start(1, 0);
            x.run(20001);
            Check.due("state", x.state(), 2);
            for (int s : new int[] {1, 2, 100, 198, 199}) {
                Check.due("the first letter of " + s, x.shape(s, 4), ' ');
                Check.due("the last letter of " + s, x.shape(s, 203), '0' + (s + 99) % 10);
                Check.due("the last but two of " + s, x.shape(s, 201), '0' + (s + 99) / 100);
            }
        }
    }
}
