/** The ends of SHAPES: each method has one sentence of chapter III. */
final class ShapeBoundsTest {
    private static final int NONE = GraftTrees.NONE;

    public static void main(String[] args) {
        twoHundredShapes();
        fullButThere();
        heirsThatNeedSeveral();
        heirsOfTwelve();
        childBySort();
        childThatIsObsolete();
        movesInChains();
        noMoveByError();
        sortsThatFit();
        Check.end("ShapeBoundsTest");
    }

    private static Trees ran(String text, long a, long b) {
        Trees x = Check.loaded(100, text);
        x.start(a, b);
        x.run(20001);
        return x;
    }

    /** "at most 200 (ERROR 9 of a PUT that needs more: none comes)". */
    private static void twoHundredShapes() {
        String text = "function main(a,b){i=0;while(i<a){o=new();o[\"k\"+i]=i;i=i+1;}return i;}";
        Trees x = ran(text, 199, 0);
        Check.due("199 and shape 0", Check.outcome(x), "199");
        Check.due("shapes", x.total(6), 200);
        Check.due("the last", x.shape(199, 3), 1);
        Check.due("none behind it", x.shape(200, 3), NONE);
        x = ran(text, 200, 0);
        Check.due("one more", Check.outcome(x), "E9@11");
        Check.due("at the put", x.node(4, 11, 0), 22);
        Check.due("none comes", x.total(6), 200);
        Check.due("objects", x.total(3), 200);
        x.load(Check.feed(x, text));
        Check.due("by load all are gone", x.total(6), 1);
        x.start(199, 0);
        x.run(20001);
        Check.due("199 again", Check.outcome(x), "199");
    }

    /** "it comes when it is wanted and is not there": with 200 there may be used what is. */
    private static void fullButThere() {
        String fill = "function main(a,b){p=new();p.a=null;p.b=1;o=new();o.a=1;o.b=1;i=0;"
                + "while(i<195){n=new();n[\"k\"+i]=i;i=i+1;}q=new();%return o.a+o.b;}";
        // SHAPES: 1 a of 3, 2 ab; 3 a of 1, 4 ab; then 195 more.
        Check.due("full", ran(fill.replace("%", ""), 0, 0).total(6), 200);
        fullBy(fill, "q.a=1;q.b=1;", "2");
        fullBy(fill, "q.k7=1;", "2");
        fullBy(fill, "o.a=5;o.b=6;", "11");
        fullBy(fill, "p.a=\"s\";p.a=1;", "2");
        // The HEIR of 4 by a is 2.
        fullBy(fill, "o.a=\"s\";", "s1");
        fullBy(fill, "q.c=1;", "9");
        fullBy(fill, "q.k7=true;", "9");
        fullBy(fill, "o.b=null;", "9");
        fullBy(fill, "o.c=1;", "9");
        fullBy(fill, "p.b=null;", "9");
    }

    private static void fullBy(String fill, String put, String want) {
        Trees x = ran(fill.replace("%", put), 0, 0);
        Check.due(put + " when full", x.state() == 3 ? "" + x.error(0) : Check.outcome(x), want);
        Check.due("shapes", x.total(6), 200);
        Check.due("moves by " + put, x.total(13), want.equals("s1") ? 1 : 0);
        for (int s = 0; s < 200; s++) {
            boolean obsolete = want.equals("s1") && s == 4;
            Check.due("heir of " + s, x.shape(s, 2), obsolete ? 2 : NONE);
        }
    }

    /** "its HEIR has the same PROPERTIES .. (CHILD by CHILD from 0 on ..)": all that it needs come, or none. */
    private static void heirsThatNeedSeveral() {
        String text = "function main(a,b){o=new();o.p=1;o.q=1;o.r=1;i=0;while(i<a){n=new();n[\"k\"+i]=i;i=i+1;}"
                + "if(b==0){o.p=null;}if(b==1){o.q=null;}if(b==2){o.r=null;}return i;}";
        // 1 p, 2 pq, 3 pqr; the HEIR by p needs 3 more, by q 2, by r 1.
        for (int b = 0; b < 3; b++) {
            int most = 200 - 4 - (3 - b);
            Trees x = ran(text, most, b);
            Check.due("all come, by " + b, Check.outcome(x), "" + most);
            Check.due("shapes", x.total(6), 200);
            Check.due("heir", x.shape(3, 2), 199);
            Check.due("properties of the heir", x.shape(199, 3), 3);
            Check.due("moves", x.total(13), 1);
            x = ran(text, most + 1, b);
            Check.due("none comes, by " + b, x.error(0), 9);
            Check.due("shapes", x.total(6), 200 - (3 - b) + 1);
            Check.due("no heir", x.shape(3, 2), NONE);
            Check.due("no moves", x.total(13), 0);
            Check.due("entries of the put", x.node(4, x.error(2), 4), 0);
            Check.due("changes of the put", x.node(4, x.error(2), 3), 0);
        }
    }

    /** An OBJECT of twelve PROPERTIES: the HEIR by the first needs twelve SHAPES, by the last one. */
    private static void heirsOfTwelve() {
        String text = "function main(a,b){o=new();i=0;while(i<12){o[\"k\"+i]=i;i=i+1;}o[\"k\"+a]=true;"
                + "return o.k0+\" \"+o.k6+\" \"+o.k11;}";
        String[] wanted = {"true 6 11", "0 true 11", "0 6 true"};
        int[] slots = {0, 6, 11};
        for (int i = 0; i < 3; i++) {
            Trees x = ran(text, slots[i], 0);
            Check.due("values", Check.outcome(x), wanted[i]);
            int heir = 13 + 11 - slots[i];
            Check.due("shapes", x.total(6), heir + 1);
            Check.due("heir", x.shape(12, 2), heir);
            Check.due("properties", x.shape(heir, 3), 12);
            Check.due("sort of its last", x.shape(heir, 1), slots[i] == 11 ? 3 : 1);
            Check.due("the first that came", x.shape(13, 1), 3);
            Check.due("its parent", x.shape(13, 0), slots[i]);
            Check.due("the first letter", x.shape(13, 4), 'k');
        }
    }

    /** "the CHILD by it and SORT 1 for a LONG, else 3". */
    private static void childBySort() {
        String[] values = {"1", "9223372036854775807", "0-9223372036854775807-1", "9223372036854775808", "\"s\"", "true",
            "null", "main", "new()"};
        for (int i = 0; i < values.length; i++) {
            Trees x = Check.ran("function main(){o=new();o.p=" + values[i] + ";}");
            Check.due("sort by " + values[i], x.shape(1, 1), i < 3 ? 1 : 3);
            // The same PROPERTY, PARENT and SORT: the same SHAPE.
            String put = "o.p=" + values[i] + ";";
            x = Check.ran("function main(){o=new();" + put + "o=new();" + put + put + "}");
            Check.due("shapes by " + values[i], x.total(6), 2);
        }
        Trees x = Check.ran("function main(){o=new();o.p=1;o=new();o.p=null;o=new();o.q=1;o=new();o.pp=1;}");
        Check.due("another sort, property, each its own", x.total(6), 5);
    }

    /** "(or, as long as what it comes to is OBSOLETE, that's HEIR; no MOVES)". */
    private static void childThatIsObsolete() {
        // 1 a, 2 ab; o: 2 becomes OBSOLETE by a: 3 a, 4 ab; 4 by b: 5 ab. p comes to 5 through 2 and 4.
        Trees x = Check.ran("function main(){p=new();p.a=1;o=new();o.a=1;o.b=1;o.a=null;o.b=null;p.b=1;return p.b+p.a;}");
        Check.due("outcome", Check.outcome(x), "2");
        Check.due("heir of 2", x.shape(2, 2), 4);
        Check.due("heir of 4", x.shape(4, 2), 5);
        Check.due("shapes", x.total(6), 6);
        Check.due("moves of o alone", x.total(13), 2);
        // 0 p .., 3 PUT, 6 o .., 9 PUT, 12 PUT, 15 PUT, 18 PUT, 21 PUT: ahead 1, behind 5
        Check.due("ahead", x.node(4, 21, 5), 1);
        Check.due("behind", x.node(4, 21, 8), 5);
    }

    /** "of an OBSOLETE SHAPE, gets that's HEIR, as long as that is so (each time a MOVE)". */
    private static void movesInChains() {
        String text = "function main(a,b){p=new();p.a=1;p.b=1;p.c=1;o=new();o.a=1;o.b=1;o.c=1;if(a>0){o.a=null;}"
                + "if(a>1){o.b=null;}if(a>2){o.c=null;}%return 7;}";
        for (int a = 0; a < 4; a++) {
            Check.due("of o alone", ran(text.replace("%", ""), a, 0).total(13), a);
            Check.due("by a get", ran(text.replace("%", "p.a;"), a, 0).total(13), 2 * a);
            Check.due("by a put", ran(text.replace("%", "p.d=1;"), a, 0).total(13), 2 * a);
            Check.due("by a put of what is there", ran(text.replace("%", "p.c=4;"), a, 0).total(13), 2 * a);
            Check.due("once alone", ran(text.replace("%", "p.a;p.b;p.c=3;"), a, 0).total(13), 2 * a);
            Check.due("what is there", Check.outcome(ran(text.replace("%", "return p.a+p.b+p.c;"), a, 0)), "3");
        }
    }

    /** "(without ERROR)": by an ERROR there is no MOVE. */
    private static void noMoveByError() {
        String text = "function main(a,b){p=new();p.a=1;o=new();o.a=1;o.a=null;%}";
        String[] errors = {"p.z;", "p[1];", "p[1]=2;", "p[\"z\"];"};
        int[] numbers = {5, 1, 1, 5};
        for (int i = 0; i < errors.length; i++) {
            Trees x = ran(text.replace("%", errors[i]), 0, 0);
            Check.due("error of " + errors[i], x.error(0), numbers[i]);
            Check.due("moves by " + errors[i], x.total(13), 1);
        }
        String twelve = "function main(a,b){j=0;while(j<2){o=new();i=0;while(i<12){o[\"k\"+i]=1;i=i+1;}if(j==0){p=o;}j=j+1;}"
                + "o.k11=null;%}";
        Trees x = ran(twelve.replace("%", ""), 0, 0);
        Check.due("moves", x.total(13), 1);
        x = ran(twelve.replace("%", "p.z=1;"), 0, 0);
        Check.due("a 13th property", x.error(0), 9);
        Check.due("moves", x.total(13), 1);
        x = ran(twelve.replace("%", "p.k1=1;"), 0, 0);
        Check.due("moves without an error", x.total(13), 2);
    }

    /** "With it, of SORT 3, or of 1 for a LONG: the SHAPE stays. Else the SHAPE becomes OBSOLETE". */
    private static void sortsThatFit() {
        String[] values = {"2", "9223372036854775807", "0-9223372036854775807-1", "9223372036854775808", "\"s\"", "true",
            "null", "main", "new()"};
        for (int i = 0; i < values.length; i++) {
            Trees x = Check.ran("function main(){o=new();o.p=1;o.p=" + values[i] + ";}");
            Check.due("heir of a long's by " + values[i], x.shape(1, 2), i < 3 ? NONE : 2);
            x = Check.ran("function main(){o=new();o.p=\"s\";o.p=" + values[i] + ";}");
            Check.due("heir of any's by " + values[i], x.shape(1, 2), NONE);
            Check.due("shapes", x.total(6), 2);
        }
        // The NODE of a PUT by which a SHAPE becomes OBSOLETE stays as it is; that of another one does not.
        Trees x = Check.ran("function main(){o=new();o.p=1;o.p=null;o.p=null;}");
        Check.due("entries", x.node(4, 6, 4), 0);
        Check.due("changes", x.node(4, 6, 3), 0);
        Check.due("entries of the next", x.node(4, 9, 4), 1);
        Check.due("its shape", x.node(4, 9, 5), 2);
    }
}
