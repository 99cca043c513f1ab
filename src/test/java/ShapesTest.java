/** SHAPES, their HEIRS, and MOVES: promise 14. */
final class ShapesTest {
    private static final int NONE = GraftTrees.NONE;

    public static void main(String[] args) {
        children();
        wrongInputs();
        heirs();
        heirOfObsoleteChild();
        moves();
        chainOfHeirs();
        obsoletePutLeavesItsNode();
        staleEntries();
        twoHundred();
        longProperties();
        heirNeedsSeveral();
        Check.end("ShapesTest");
    }

    /** PARENT, SORT, HEIR, how many PROPERTIES, the last one's letters. */
    private static void shape(Trees x, int s, int parent, int sort, int heir, int size, String word) {
        Check.due("parent of " + s, x.shape(s, 0), parent);
        Check.due("sort of " + s, x.shape(s, 1), sort);
        Check.due("heir of " + s, x.shape(s, 2), heir);
        Check.due("size of " + s, x.shape(s, 3), size);
        StringBuilder letters = new StringBuilder();
        for (int i = 4; x.shape(s, i) != NONE; i++) {
            letters.append((char) x.shape(s, i));
        }
        Check.due("property of " + s, letters.toString(), word);
    }

    private static void children() {
        Trees x = Check.ran("function main(){o=new();o.first=1;o[\"second \"+1]=true;p=new();p.first=2;"
                + "q=new();q.first=\"s\";r=new();r.first=9223372036854775808;r.x=null;}");
        Check.due("shapes", x.total(6), 5);
        shape(x, 0, NONE, NONE, NONE, 0, "");
        shape(x, 1, 0, 1, NONE, 1, "first");
        shape(x, 2, 1, 3, NONE, 2, "second 1");
        shape(x, 3, 0, 3, NONE, 1, "first");
        shape(x, 4, 3, 3, NONE, 2, "x");
        x.start(0, 0);
        x.run(100);
        Check.due("they stay from run to run", x.total(6), 5);
        // A PROPERTY may be the empty STRING.
        x = Check.ran("function main(){o=new();o[\"\"]=1;return o[\"\"];}");
        Check.due("result", Check.outcome(x), "1");
        shape(x, 1, 0, 1, NONE, 1, "");
    }

    private static void wrongInputs() {
        Trees x = new Trees(1);
        shape(x, 0, NONE, NONE, NONE, 0, "");
        Check.due("shape 1", x.shape(1, 3), NONE);
        Check.due("shape -1", x.shape(-1, 3), NONE);
        Check.due("what -1", x.shape(0, -1), NONE);
        Check.due("what 4 of shape 0", x.shape(0, 4), NONE);
        Check.due("extremes", x.shape(Integer.MIN_VALUE, Integer.MIN_VALUE), NONE);
        Check.due("extremes", x.shape(0, Integer.MIN_VALUE), NONE);
        Check.due("extremes", x.shape(0, Integer.MAX_VALUE), NONE);
    }

    private static void heirs() {
        // 1 a, 2 ab, 3 abc of longs; the PUT makes 3 OBSOLETE: a, ab of 3, abc.
        Trees x = Check.ran("function main(){o=new();o.a=1;o.b=2;o.c=3;o.b=\"s\";o.d=4;return o.a+o.b+o.c+o.d;}");
        Check.due("values", Check.outcome(x), "1s34");
        shape(x, 3, 2, 1, 5, 3, "c");
        shape(x, 2, 1, 1, NONE, 2, "b");
        shape(x, 4, 1, 3, NONE, 2, "b");
        shape(x, 5, 4, 1, NONE, 3, "c");
        shape(x, 6, 5, 1, NONE, 4, "d");
        Check.due("shapes", x.total(6), 7);
        Check.due("moves", x.total(13), 1);
        // The SORT of that PROPERTY counts, whatever the last one's is.
        x = Check.ran("function main(){o=new();o.a=1;o.b=null;o.a=null;p=new();p.a=null;p.b=1;p.a=true;}");
        shape(x, 2, 1, 3, 4, 2, "b");
        shape(x, 4, 3, 3, NONE, 2, "b");
        shape(x, 5, 3, 1, NONE, 2, "b");
        Check.due("shapes", x.total(6), 6);
        // By a PROPERTY of SORT 3 all stays.
        x = Check.ran("function main(){o=new();o.a=null;o.a=1;o.a=\"s\";o.a=new();}");
        Check.due("shapes", x.total(6), 2);
        Check.due("moves", x.total(13), 0);
    }

    private static void heirOfObsoleteChild() {
        // p's CHILD by a LONG is OBSOLETE: its HEIR instead, without a MOVE.
        Trees x = Check.ran("function main(){o=new();o.a=1;o.a=\"s\";p=new();p.a=2;p.b=1;}");
        shape(x, 1, 0, 1, 2, 1, "a");
        shape(x, 2, 0, 3, NONE, 1, "a");
        shape(x, 3, 2, 1, NONE, 2, "b");
        Check.due("moves", x.total(13), 1);
        // 0 WRITE 1 2, 3 PUT 4 5, 6 PUT, 9 WRITE, 12 PUT 13 14: ahead 0, behind 2
        Check.due("ahead", x.node(4, 12, 5), 0);
        Check.due("behind", x.node(4, 12, 8), 2);
    }

    private static void moves() {
        Trees x = Check.loaded(100, "function main(){o=new();o.a=1;p=new();p.a=1;q=new();q.a=1;o.a=\"s\";"
                + "f();p.a;f();q.b=1;f();p.z;}function f(){1;}");
        x.start(0, 0);
        x.run(8);
        Check.due("moves by the put", x.total(13), 1);
        x.run(3);
        Check.due("moves by a get", x.total(13), 2);
        x.run(3);
        Check.due("moves by a put", x.total(13), 3);
        x.run(5);
        Check.due("error", x.error(0), 5);
        Check.due("p has moved before", x.total(13), 3);
        // No MOVE by an ERROR.
        x = Check.ran("function main(){o=new();o.a=1;p=new();p.a=1;o.a=\"s\";p.z;}");
        Check.due("error", x.error(0), 5);
        Check.due("moves", x.total(13), 1);
    }

    private static void chainOfHeirs() {
        // ab of longs becomes OBSOLETE, then its HEIR does: o moves once and once more, p twice at once.
        Trees x = Check.ran("function main(){o=new();o.a=1;o.b=1;p=new();p.a=1;p.b=1;o.a=null;o.b=null;return p.b;}");
        shape(x, 2, 1, 1, 4, 2, "b");
        shape(x, 3, 0, 3, NONE, 1, "a");
        shape(x, 4, 3, 1, 5, 2, "b");
        shape(x, 5, 3, 3, NONE, 2, "b");
        Check.due("moves", x.total(13), 4);
        // An HEIR that is OBSOLETE already is gone through.
        x = Check.ran("function main(){o=new();o.a=1;o.b=1;p=new();p.a=null;p.b=1;p.b=null;o.a=null;}");
        // 1 a, 2 ab; 3 a of 3, 4 ab; p: 4 becomes OBSOLETE, 5; o: 2 becomes OBSOLETE, its HEIR is 4, then 5.
        shape(x, 2, 1, 1, 4, 2, "b");
        shape(x, 4, 3, 1, 5, 2, "b");
        Check.due("shapes", x.total(6), 6);
        Check.due("moves", x.total(13), 3);
    }

    private static void obsoletePutLeavesItsNode() {
        Trees x = Check.ran("function main(){o=new();o.a=1;o.a=\"s\";}");
        // 6 PUT
        Check.due("entries", x.node(4, 6, 4), 0);
        Check.due("changes", x.node(4, 6, 3), 0);
        x.start(0, 0);
        x.run(100);
        // The first PUT comes to 2 now, which stays by the second one.
        Check.due("entries", x.node(4, 6, 4), 1);
        Check.due("shape", x.node(4, 6, 5), 2);
    }

    private static void staleEntries() {
        Trees x = Check.loaded(100, "function main(a,b){o=new();o.p=1;if(a==1){o.p=true;}return o.p;}");
        // 2 WRITE 3 4, 5 PUT 6 7, 8 IF 9 10 11 12 PUT 13 14, 15 RETURN 16 GET 17
        x.start(0, 0);
        x.run(100);
        Check.due("put", x.node(4, 5, 8), 1);
        Check.due("get", x.node(4, 16, 5), 1);
        x.start(1, 0);
        x.run(100);
        Check.due("the stale one is gone", x.node(4, 16, 4), 1);
        Check.due("get", x.node(4, 16, 5), 2);
        Check.due("one change for both", x.node(4, 16, 3), 2);
        Check.due("the put was not worked out again", x.node(4, 5, 8), 1);
        x.start(0, 0);
        x.run(100);
        Check.due("put", x.node(4, 5, 8), 2);
        Check.due("entries", x.node(4, 5, 4), 1);
        Check.due("changes", x.node(4, 5, 3), 2);
    }

    private static void twoHundred() {
        Trees x = Check.ran("function main(a,b){i=0;while(true){o=new();o[\"k\"+i]=i;i=i+1;}}");
        Check.due("error", x.error(0), 9);
        Check.due("at the put", x.node(4, x.error(2), 0), 22);
        Check.due("shapes", x.total(6), 200);
        Check.due("steps", x.total(0), 2 + 199 * 4 + 2);
        // Those that are there may be used on.
        x.start(0, 0);
        x.run(900);
        Check.due("error", x.error(0), 9);
        Check.due("steps", x.total(0), 2 + 199 * 4 + 2);
    }

    /** However long the PROPERTIES are, each load has place for those of 200 SHAPES. */
    private static void longProperties() {
        Trees x = new Trees(100);
        String text = "function main(a,b){s=\"0123456789012345678901234567890123456789\";s=s+s+s+s;i=100;"
                + "while(i<299){o=new();o[s+\"012345678901234567890123456789abcdefg\"+i]=1;i=i+1;}}";
        for (int load = 0; load < 3; load++) {
            Check.due("load", x.load(Check.feed(x, text)), 5);
            x.start(0, 0);
            x.run(20001);
            Check.due("state", x.state(), 2);
            Check.due("shapes", x.total(6), 200);
            for (int s = 1; s < 200; s += 66) {
                Check.due("the first letter", x.shape(s, 4), '0');
                Check.due("the last letter", x.shape(s, 203), '0' + (s + 99) % 10);
                Check.due("no more", x.shape(s, 204), NONE);
            }
        }
    }

    private static void heirNeedsSeveral() {
        // 1 p, 2 pq, 3 pqr; 196 more: with 199 there the HEIR of pqr by p needs 3.
        Trees x = Check.loaded(100, "function main(a,b){o=new();o.p=1;o.q=1;o.r=1;i=0;while(i<a){n=new();"
                + "n[\"k\"+i]=i;i=i+1;}o.p=null;return i;}");
        x.start(194, 0);
        x.run(20001);
        Check.due("error", x.error(0), 9);
        Check.due("none comes", x.total(6), 198);
        Check.due("no moves", x.total(13), 0);
        Check.due("nothing is obsolete", x.shape(3, 2), NONE);
        x = Check.loaded(100, "function main(a,b){o=new();o.p=1;o.q=1;o.r=1;i=0;while(i<a){n=new();"
                + "n[\"k\"+i]=i;i=i+1;}o.p=null;return i;}");
        x.start(193, 0);
        x.run(20001);
        Check.due("result", Check.outcome(x), "193");
        Check.due("all come", x.total(6), 200);
        Check.due("heir", x.shape(3, 2), 199);
    }
}
