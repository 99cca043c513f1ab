import java.util.Arrays;

/** Calls that are refused, and indices at both ends: each method has the sentences of one promise. */
final class CallBoundsTest {
    private static final int NONE = GraftTrees.NONE;
    private static final int LEAST = Integer.MIN_VALUE;
    private static final int MOST = Integer.MAX_VALUE;

    private static final String BUSY = "function main(a,b){o=new();i=0;while(i<a){i=i+1;f(o,i);}return i;}"
            + "function f(o,n){o.p=n;print(n);return o.p;}";

    public static void main(String[] args) {
        thresholds();
        newObject();
        bytesOfFeed();
        fullTape();
        refusedLoads();
        partOfTape();
        loadWithFault();
        loadInPlaceOfAll();
        faults();
        startWithoutMain();
        startOfEmptyMain();
        startInPlaceOfAnother();
        argsOfStart();
        refusedRuns();
        states();
        errors();
        results();
        outs();
        Check.end("CallBoundsTest");
    }

    /** A RUN under way, with a CODE, one more ROOT in the QUEUE, an OBJECT, a SHAPE, an OUT. */
    private static Trees busy() {
        Trees x = Check.loaded(2, BUSY);
        x.start(9, 0);
        x.run(14);
        x.compile();
        return x;
    }

    /** What stays when nothing happens. */
    private static String snapshot(Trees x) {
        StringBuilder all = new StringBuilder("state " + x.state());
        for (int what = 0; what < 16; what++) {
            all.append(" total ").append(x.total(what));
        }
        return all.append(snapshotOfHouse(x)).append(" frame ").append(x.frame(0, 0)).append(' ').append(x.frame(0, 1))
                .append(" out ").append(x.out(0)).append(" fault ").append(x.fault(0)).append(' ').append(x.fault(1))
                .toString();
    }

    /** What stays when only the RUN is gone. */
    private static String snapshotOfHouse(Trees x) {
        StringBuilder all = new StringBuilder();
        for (int what = 5; what < 16; what++) {
            all.append(" total ").append(x.total(what));
        }
        for (int r = 4; r < 6; r++) {
            for (int what = 0; what < 8; what++) {
                all.append(" root ").append(x.root(r, what));
            }
            for (int k = 0; k < 6; k++) {
                all.append(" node ").append(x.node(r, k, 1)).append(' ').append(x.node(r, k, 2));
            }
        }
        for (int what = 0; what < 8; what++) {
            all.append(" code ").append(x.code(0, what)).append(" shape ").append(x.shape(1, what));
        }
        return all.toString();
    }

    /** "T is threshold, at least 1, at most 100." */
    private static void thresholds() {
        int[] given = {LEAST, -1, 0, 1, 2, 3, 99, 100, 101, MOST};
        int[] wanted = {1, 1, 1, 1, 2, 3, 99, 100, 100, 100};
        for (int i = 0; i < given.length; i++) {
            Trees x = Check.loaded(given[i], "function main(){}");
            int starts = 0;
            while (x.total(8) == 0 && starts < 200) {
                x.start(0, 0);
                starts++;
            }
            Check.due("starts until main is in the queue, by " + given[i], starts, wanted[i]);
            Check.due("heat by " + given[i], x.root(4, 2), wanted[i]);
        }
    }

    /** "The tape is empty, no TEXT is loaded, no RUN." */
    private static void newObject() {
        Trees x = new Trees(5);
        Check.due("load of a byte", x.load(1), -2);
        Check.due("load of none", x.load(0), NONE);
        Check.due("its fault", x.fault(0), 2);
        Check.due("first feed", x.feed(0, 0, 0, 0, 0), 20);
        x = new Trees(5);
        Check.due("fault", x.fault(0), 0);
        Check.due("place", x.fault(1), NONE);
        Check.due("roots", x.total(5), 4);
        Check.due("root 3", x.root(3, 0), 0);
        Check.due("root 4", x.root(4, 0), NONE);
        Check.due("start", x.start(0, 0), false);
        Check.due("state", x.state(), 0);
        Check.due("run", x.run(1), 0);
        Check.due("frame", x.frame(0, 0), NONE);
        Check.due("result", x.result(0), NONE);
        Check.due("out", x.out(0), NONE);
        Check.due("error", x.error(0), NONE);
        Check.due("compile", x.compile(), NONE);
        Check.due("code", x.code(0, 0), NONE);
        Check.due("queue", x.total(8), 0);
    }

    private static int fourOf(int[] bytes, int from) {
        return bytes[from] << 24 | bytes[from + 1] << 16 | bytes[from + 2] << 8 | bytes[from + 3];
    }

    /** "Twenty bytes come behind those on the tape: four of each number, the highest first". */
    private static void bytesOfFeed() {
        for (int b : new int[] {'$', 127, 128, 255, 0}) {
            Trees x = new Trees(1);
            for (int place = 0; place < 20; place++) {
                int[] bytes = new int[20];
                Arrays.fill(bytes, ' ');
                bytes[place] = b;
                x.feed(fourOf(bytes, 0), fourOf(bytes, 4), fourOf(bytes, 8), fourOf(bytes, 12), fourOf(bytes, 16));
                x.load(20);
                Check.due("fault by byte " + b, x.fault(0), 1);
                Check.due("place of byte " + b, x.fault(1), place);
            }
        }
        // Behind those that are there.
        Trees x = new Trees(1);
        Check.due("first", x.feed(0x20202020, 0x20202020, 0x20202020, 0x20202020, 0x20202020), 20);
        Check.due("second", x.feed(0x20242020, 0x20202020, 0x20202020, 0x20202020, 0x20202020), 40);
        x.load(40);
        Check.due("place", x.fault(1), 21);
    }

    /** "how many there are. NONE when there would be more than 4,000." */
    private static void fullTape() {
        Trees x = new Trees(1);
        String text = "function main(){return 5;}";
        Check.due("fed", Check.feed(x, text), 26);
        for (int i = 3; i <= 200; i++) {
            Check.due("feed " + i, x.feed(0x20202020, 0x20202020, 0x20202020, 0x20202020, 0x20202020), i * 20);
        }
        Check.due("feed 201", x.feed(-1, -1, -1, -1, -1), NONE);
        Check.due("feed 202", x.feed(-1, -1, -1, -1, -1), NONE);
        Check.due("more than there are", x.load(4001), -2);
        Check.due("the tape is what it was", x.load(4000), 5);
        Check.due("the tape is empty then", x.feed(-1, -1, -1, -1, -1), 20);
    }

    /** "-2, and nothing happens, when n is below 0 or more than there are." */
    private static void refusedLoads() {
        Trees x = busy();
        String before = snapshot(x);
        for (int n : new int[] {LEAST, -2, -1, 1, MOST}) {
            Check.due("load of " + n, x.load(n), -2);
        }
        x.feed(-1, -1, -1, -1, -1);
        Check.due("load of 21", x.load(21), -2);
        Check.due("load of -1", x.load(-1), -2);
        Check.due("nothing has happened", snapshot(x), before);
        Check.due("the tape stays", x.feed(-1, -1, -1, -1, -1), 40);
        Check.due("the run goes on", x.run(1), 1);
        x = new Trees(1);
        Check.due("load of a byte of none", x.load(1), -2);
        Check.feed(x, "function main(){$}  ");
        Check.due("load of 20", x.load(20), NONE);
        Check.due("load of 1", x.load(1), -2);
        Check.due("the latest load's fault", x.fault(0), 1);
        Check.due("its place", x.fault(1), 16);
    }

    /** "The first n bytes of the tape (which is empty then) are read as a TEXT". */
    private static void partOfTape() {
        Trees x = new Trees(1);
        Check.feed(x, "function f(){}function g(){}$");
        Check.due("the first 28", x.load(28), 6);
        Check.due("no others are left", x.load(1), -2);
        Check.feed(x, "function f(){}function g(){}$");
        Check.due("the first 14", x.load(14), 5);
        Check.feed(x, "function f(){}function g(){}$");
        Check.due("the first 13", x.load(13), NONE);
        Check.due("empty also by a fault", x.load(1), -2);
        Check.feed(x, "function f(){}function g(){}$");
        Check.due("all", x.load(29), NONE);
        Check.due("place", x.fault(1), 28);
        Check.feed(x, "function f(){}");
        Check.due("none of it", x.load(0), NONE);
        Check.due("fault", x.fault(0), 2);
        Check.due("place", x.fault(1), 0);
        Check.due("the tape", x.feed(0, 0, 0, 0, 0), 20);
    }

    /** "NONE when there is a FAULT: all that was stays, but that there is no RUN." */
    private static void loadWithFault() {
        Trees x = busy();
        String before = snapshotOfHouse(x);
        Check.due("load", x.load(Check.feed(x, "function g(){}function main(){return 1;")), NONE);
        Check.due("fault", x.fault(0), 2);
        Check.due("place", x.fault(1), 39);
        Check.due("all that was stays", snapshotOfHouse(x), before);
        Check.due("state", x.state(), 0);
        Check.due("run", x.run(9), 0);
        Check.due("frame", x.frame(0, 0), NONE);
        Check.due("out", x.out(0), NONE);
        Check.due("error", x.error(0), NONE);
        Check.due("activations", x.total(1), 0);
        Check.due("main is what it was", x.start(3, 0), true);
        x.run(20001);
        Check.due("outcome", Check.outcome(x), "3");
        Check.due("load", x.load(0), NONE);
        Check.due("no result", x.result(0), NONE);
    }

    /** "its FUNCTIONS are DEFINED in place of all there were: how many ROOTS there are". */
    private static void loadInPlaceOfAll() {
        Trees x = busy();
        Check.due("load", x.load(Check.feed(x, "function h(){}")), 5);
        Check.due("no main", x.start(0, 0), false);
        Check.due("state", x.state(), 0);
        int[] wanted = {0, 0, 0, 0, 0, 5, 1, 0, 0, 0, 0, 0, 0, 0, 0, 0};
        for (int what = 0; what < 16; what++) {
            Check.due("total " + what, x.total(what), wanted[what]);
        }
        Check.due("root 5 is gone", x.root(5, 0), NONE);
        Check.due("its nodes", x.node(5, 0, 0), NONE);
        Check.due("code 0 is gone", x.code(0, 0), NONE);
        Check.due("shape 1 is gone", x.shape(1, 0), NONE);
        Check.due("shape 0 is there", x.shape(0, 3), 0);
        Check.due("root 4", x.root(4, 30), 'h');
        Check.due("compile", x.compile(), NONE);
    }

    /** "what 0 its number, 0 without; 1 its place, NONE without. NONE for another what." */
    private static void faults() {
        Trees x = new Trees(1);
        x.load(Check.feed(x, "function f(){}"));
        Check.due("number without", x.fault(0), 0);
        Check.due("place without", x.fault(1), NONE);
        x.load(Check.feed(x, "$"));
        Check.due("number", x.fault(0), 1);
        Check.due("place", x.fault(1), 0);
        for (int what : new int[] {LEAST, -2, -1, 2, 3, MOST}) {
            Check.due("what " + what, x.fault(what), NONE);
        }
        x.load(Check.feed(x, "function f(){}"));
        Check.due("number of the latest", x.fault(0), 0);
        Check.due("place of the latest", x.fault(1), NONE);
    }

    /** "false, and nothing happens, when main is not DEFINED". */
    private static void startWithoutMain() {
        Check.due("of a new object", new Trees(1).start(0, 0), false);
        Trees x = Check.loaded(1, "function mai(){main=1;}function maine(main){}");
        String before = snapshot(x);
        Check.due("without main", x.start(1, 2), false);
        Check.due("nothing has happened", snapshot(x), before);
        Check.due("state", x.state(), 0);
        x = Check.loaded(1, "function f(){}function main(){}");
        Check.due("with main", x.start(1, 2), true);
    }

    /** "(a main without STATEMENTS has come to its end then)". */
    private static void startOfEmptyMain() {
        Trees x = Check.loaded(1, "function main(a,b){}");
        Check.due("start", x.start(1, 2), true);
        Check.due("outcome", Check.outcome(x), "null");
        Check.due("run", x.run(1), 0);
        Check.due("steps", x.total(0), 0);
        Check.due("activations", x.total(1), 0);
        Check.due("the most", x.total(2), 1);
        Check.due("frame", x.frame(0, 0), NONE);
        x = Check.loaded(1, "function main(a,b){1;}");
        x.start(1, 2);
        Check.due("with a statement", x.state(), 1);
        Check.due("activations", x.total(1), 1);
        Check.due("ahead of its first step", x.total(0), 0);
    }

    /** "A RUN begins, in place of another one"; "(OUT and OBJECTS are the RUN's.)" */
    private static void startInPlaceOfAnother() {
        Trees x = busy();
        Check.due("steps", x.total(0), 14);
        Check.due("objects", x.total(3), 1);
        Check.due("letters", x.total(4) > 0, true);
        Check.due("start", x.start(0, 0), true);
        Check.due("activations", x.total(1), 1);
        for (int what : new int[] {0, 3, 4}) {
            Check.due("total " + what, x.total(what), 0);
        }
        Check.due("the most", x.total(2), 1);
        Check.due("out", x.out(0), NONE);
        x.run(9);
        Check.due("outcome", Check.outcome(x), "0");
        x = Check.ran("function main(a,b){print(a);return 1/a;}");
        x.start(0, 0);
        x.run(9);
        Check.due("outcome", Check.outcome(x), "E2@6");
        x.start(1, 0);
        Check.due("no error", x.error(0), NONE);
        x.run(9);
        Check.due("outcome", Check.outcome(x), "1");
        Check.due("out", Check.out(x), "1\n");
        x.start(2, 0);
        Check.due("no result", x.result(0), NONE);
    }

    /** "a call of main with these two ARGS": the greatest and the least. */
    private static void argsOfStart() {
        long[][] args = {{0, 0}, {Long.MAX_VALUE, Long.MIN_VALUE}, {Long.MIN_VALUE, Long.MAX_VALUE}, {-1, 1}};
        for (long[] pair : args) {
            Trees x = Check.loaded(1, "function main(a,b){return a+\" \"+b;}");
            x.start(pair[0], pair[1]);
            Check.due("tag of a", x.frame(0, 10), 1);
            Check.due("tag of b", x.frame(0, 11), 1);
            x.run(1);
            Check.due("args", Check.outcome(x), pair[0] + " " + pair[1]);
        }
    }

    /** "how many STEPS it made, at most n"; "0 when none is under way, or n is below 1". */
    private static void refusedRuns() {
        Trees x = Check.loaded(1, "function main(a,b){1;2;3;4;}");
        Check.due("no run", x.run(5), 0);
        x.start(0, 0);
        String before = snapshot(x);
        for (int n : new int[] {LEAST, -1, 0}) {
            Check.due("run of " + n, x.run(n), 0);
        }
        Check.due("nothing has happened", snapshot(x), before);
        Check.due("run of 1", x.run(1), 1);
        Check.due("steps", x.total(0), 1);
        Check.due("run of 2", x.run(2), 2);
        Check.due("state", x.state(), 1);
        Check.due("run of more than there are", x.run(MOST), 1);
        Check.due("state", x.state(), 2);
        Check.due("it has ended", x.run(1), 0);
        x.start(0, 0);
        Check.due("as many as there are", x.run(4), 4);
        Check.due("state", x.state(), 2);
        x = Check.ran("function main(a,b){1;2/0;3;}");
        Check.due("steps up to an error", x.total(0), 2);
        Check.due("ended by an error", x.run(1), 0);
        Check.due("state", x.state(), 3);
    }

    /** "0 no RUN, 1 under way, 2 it came to its end, 3 it ended by an ERROR." */
    private static void states() {
        Trees x = Check.loaded(1, "function main(a,b){a/b;2;}");
        Check.due("no run", x.state(), 0);
        x.start(1, 1);
        Check.due("under way", x.state(), 1);
        x.run(1);
        Check.due("under way yet", x.state(), 1);
        x.run(1);
        Check.due("end", x.state(), 2);
        x.start(1, 0);
        Check.due("under way again", x.state(), 1);
        x.run(1);
        Check.due("error", x.state(), 3);
        x.load(0);
        Check.due("no run any more", x.state(), 0);
    }

    /** "NONE without one, or for another what"; "(10: that of the STATEMENT's first NODE, or of the WHILE)". */
    private static void errors() {
        Trees x = Check.loaded(1, "function main(a,b){a/b;2;}");
        for (int what = 0; what < 3; what++) {
            Check.due("no run", x.error(what), NONE);
        }
        x.start(1, 1);
        for (int what = 0; what < 3; what++) {
            Check.due("under way", x.error(what), NONE);
        }
        x.run(9);
        for (int what = 0; what < 3; what++) {
            Check.due("end", x.error(what), NONE);
        }
        x.start(1, 0);
        x.run(9);
        int[] wanted = {2, 4, 2};
        for (int what = 0; what < 3; what++) {
            Check.due("error " + what, x.error(what), wanted[what]);
        }
        for (int what : new int[] {LEAST, -2, -1, 3, 4, MOST}) {
            Check.due("error " + what, x.error(what), NONE);
        }
    }

    /** "Letter i of what main came to, SHOWN, when the RUN came to its end; NONE." */
    private static void results() {
        Trees x = Check.loaded(1, "function main(a,b){if(b==1){return \"\";}if(b==2){1/0;}s=\"0123456789\";s=s+s;s=s+s;"
                + "s=s+s+s+s;return s+\"0123456789012345678901234567890123456789\";}");
        Check.due("no run", x.result(0), NONE);
        x.start(0, 0);
        Check.due("under way", x.result(0), NONE);
        x.run(20);
        Check.due("first", x.result(0), '0');
        Check.due("last of 200", x.result(199), '9');
        for (int i : new int[] {LEAST, -1, 200, 201, MOST}) {
            Check.due("letter " + i, x.result(i), NONE);
        }
        x.start(0, 1);
        x.run(20);
        Check.due("state", x.state(), 2);
        Check.due("no letters", x.result(0), NONE);
        x.start(0, 2);
        x.run(20);
        Check.due("by an error", x.result(0), NONE);
    }

    /** "Letter i of the OUT of the RUN, of which the first 2,000 are kept; NONE." */
    private static void outs() {
        Trees x = Check.loaded(1, "function main(a,b){s=\"0123456789012345678\";while(a>0){print(s);a=a-1;}print(\"x\");}");
        Check.due("no run", x.out(0), NONE);
        x.start(99, 0);
        Check.due("nothing yet", x.out(0), NONE);
        x.run(20001);
        Check.due("letters", x.total(4), 1982);
        Check.due("the last but one", x.out(1980), 'x');
        Check.due("the last", x.out(1981), 10);
        for (int i : new int[] {LEAST, -1, 1982, 1999, 2000, MOST}) {
            Check.due("letter " + i, x.out(i), NONE);
        }
        x.start(100, 0);
        x.run(20001);
        Check.due("letters, also those not kept", x.total(4), 2002);
        Check.due("the last that is kept", x.out(1999), 10);
        for (int i : new int[] {2000, 2001, 2002}) {
            Check.due("letter " + i, x.out(i), NONE);
        }
        x.start(1000, 0);
        x.run(20001);
        Check.due("letters", x.total(4), 20002);
        Check.due("the first", x.out(0), '0');
        Check.due("the last that is kept", x.out(1999), 10);
        Check.due("the last that is kept, but one", x.out(1998), '8');
        Check.due("none behind it", x.out(2000), NONE);
        x.start(3, 0);
        x.run(6);
        Check.due("out of a run under way", x.out(39), 10);
        Check.due("no more of it", x.out(40), NONE);
        x.start(0, 0);
        Check.due("out of a new run", x.out(0), NONE);
    }
}
