import java.lang.reflect.Constructor;
import java.lang.reflect.Field;
import java.lang.reflect.Method;
import java.lang.reflect.Modifier;
import java.util.Arrays;
import java.util.Random;

/** A new object, wrong inputs of every call, and that codes change nothing of what a program says. */
final class FaceTest {
    private static final int NONE = GraftTrees.NONE;

    public static void main(String[] args) {
        members();
        readme();
        newObject();
        totals();
        anyCallsAtAll();
        sameWithoutCodes();
        manyLoads();
        Check.end("FaceTest");
    }

    private static void members() {
        int modifiers = GraftTrees.class.getModifiers();
        Check.due("public", Modifier.isPublic(modifiers), true);
        Check.due("final", Modifier.isFinal(modifiers), true);
        StringBuilder names = new StringBuilder();
        Method[] methods = GraftTrees.class.getDeclaredMethods();
        String[] open = Arrays.stream(methods).filter(m -> !Modifier.isPrivate(m.getModifiers())).map(Method::getName)
                .sorted().toArray(String[]::new);
        for (String name : open) {
            names.append(name).append(' ');
        }
        Check.due("methods", names.toString(),
                "code compile error fault feed frame load node out result root run shape start state total ");
        for (Field field : GraftTrees.class.getDeclaredFields()) {
            Check.due(field.getName(), Modifier.isPrivate(field.getModifiers()), !field.getName().equals("NONE"));
        }
        Constructor<?>[] constructors = GraftTrees.class.getDeclaredConstructors();
        Check.due("constructors", constructors.length, 1);
        Check.due("NONE", NONE, -1);
    }

    /** What README.md shows answers as README.md says. */
    private static void readme() {
        Trees x = new Trees(2);
        Check.due("feed", x.feed(0x66756e63, 0x74696f6e, 0x206d6169, 0x6e28612c, 0x62297b72), 20);
        Check.due("feed again", x.feed(0x65747572, 0x6e20612b, 0x623b7d20, 0x20202020, 0x20202020), 40);
        Check.due("load", x.load(31), 5);
        Check.due("start", x.start(3, 4), true);
        Check.due("run", x.run(100), 1);
        Check.due("state", x.state(), 2);
        Check.due("result", x.result(0), 55);
        Check.due("no root is hot yet", x.compile(), NONE);
        Check.due("start again", x.start(3, 4), true);
        Check.due("main is hot", x.compile(), 4);
        Check.due("its code", x.root(4, 3), 0);
    }

    private static void newObject() {
        Trees x = new Trees(5);
        Check.due("state", x.state(), 0);
        Check.due("load of nothing", x.load(1), -2);
        Check.due("fault", x.fault(0), 0);
        Check.due("place", x.fault(1), NONE);
        Check.due("start", x.start(1, 2), false);
        Check.due("run", x.run(1), 0);
        Check.due("error", x.error(0), NONE);
        Check.due("result", x.result(0), NONE);
        Check.due("out", x.out(0), NONE);
        Check.due("compile", x.compile(), NONE);
        Check.due("frame", x.frame(0, 0), NONE);
        Check.due("code", x.code(0, 0), NONE);
        String[] names = {"print", "new", "kind", "define"};
        for (int r = 0; r < 4; r++) {
            int[] wanted = {0, 0, 0, NONE, 0, NONE, 1, 0, NONE, NONE, NONE};
            for (int what = 0; what < wanted.length; what++) {
                Check.due("root " + r + " what " + what, x.root(r, what), wanted[what]);
            }
            for (int i = 0; i <= names[r].length(); i++) {
                Check.due("letter", x.root(r, 30 + i), i < names[r].length() ? names[r].charAt(i) : NONE);
            }
        }
        Check.due("root 4", x.root(4, 0), NONE);
        Check.due("load of an empty text", x.load(0), NONE);
        Check.due("fault", x.fault(0), 2);
        Check.due("place", x.fault(1), 0);
    }

    private static void totals() {
        Trees x = new Trees(5);
        int[] wanted = {0, 0, 0, 0, 0, 4, 1, 0, 0, 0, 0, 0, 0, 0, 0, 0};
        for (int what = 0; what < 16; what++) {
            Check.due("total " + what, x.total(what), wanted[what]);
        }
        Check.due("total -1", x.total(-1), NONE);
        Check.due("total 16", x.total(16), NONE);
        x = Check.loaded(100, "function main(a,b){o=new();o.p=f(1);print(o.p);}function f(x){return x;}");
        x.start(1, 2);
        Check.due("activations", x.total(1), 1);
        Check.due("most", x.total(2), 1);
        x.run(2);
        Check.due("steps", x.total(0), 2);
        Check.due("activations", x.total(1), 2);
        Check.due("most", x.total(2), 2);
        Check.due("objects", x.total(3), 1);
        x.run(9);
        int[] after = {4, 0, 2, 1, 2, 6, 2, 0, 0};
        for (int what = 0; what < after.length; what++) {
            Check.due("total " + what, x.total(what), after[what]);
        }
        Check.due("calls: main, new, f, print", x.total(14), 4);
        x.start(1, 2);
        Check.due("steps of the new run", x.total(0), 0);
        Check.due("most of the new run", x.total(2), 1);
        Check.due("letters of the new run", x.total(4), 0);
        Check.due("calls since load", x.total(14), 5);
    }

    /** No call throws or fails to end, whatever it is given. */
    private static void anyCallsAtAll() {
        Random random = new Random(7);
        String[] texts = {
            "function main(a,b){i=0;while(i<9){f(i);i=i+1;}return i;}function f(x){o=new();o.p=x;return o.p;}",
            "function main(a,b){return a/b;}", "function main(){main();}", "function f(){", "$"};
        for (int round = 0; round < 300; round++) {
            Trees x = new Trees(random.nextInt());
            while (x.callsLeft() > 20) {
                anyCall(x, random, texts);
            }
            Check.due("state is one of four", x.state() >= 0 && x.state() <= 3, true);
        }
    }

    private static int some(Random random) {
        int[] edges = {Integer.MIN_VALUE, -2, -1, Integer.MAX_VALUE, 59, 60, 100, 200, 300, 4000};
        return random.nextInt(3) == 0 ? edges[random.nextInt(edges.length)] : random.nextInt(40);
    }

    private static void anyCall(Trees x, Random random, String[] texts) {
        switch (random.nextInt(20)) {
            case 0: x.feed(some(random), some(random), some(random), some(random), some(random)); break;
            case 1: x.load(some(random)); break;
            case 2: case 3:
                x.load(0);
                x.load(Check.feed(x, texts[random.nextInt(texts.length)]));
                break;
            case 4: case 5: x.start(random.nextLong(), some(random)); break;
            case 6: case 7: case 8: x.run(some(random)); break;
            case 9: x.state(); break;
            case 10: x.error(some(random)); break;
            case 11: x.result(some(random)); break;
            case 12: x.out(some(random)); break;
            case 13: x.compile(); break;
            case 14: x.root(some(random), some(random)); break;
            case 15: x.node(some(random), some(random), some(random)); break;
            case 16: x.shape(some(random), some(random)); break;
            case 17: x.code(some(random), some(random)); break;
            case 18: x.frame(some(random), some(random)); break;
            default:
                x.total(some(random));
                x.fault(some(random));
                break;
        }
    }

    /** What a program says is always what the same trees would say without codes. */
    private static void sameWithoutCodes() {
        String text = "function main(a,b){i=0;s=0;o=mk(a);while(i<40){i=i+1;s=s+get(o)+twice(i);if(i==15){o=mk(\"x\");"
                + "s=\"\";}if(i==20){define(\"function get(o){return o.q+1;}\");}if(i==30){o.q=7;s=\"=\";}"
                + "set(o,i);if(i/7*7==i){print(s);}}return s;}"
                + "function mk(v){o=new();o.p=v;o.q=1;return o;}function get(o){return o.p;}"
                + "function set(o,v){if(v==17){o.q=\"q\";return v;}o.p=v;return v;}"
                + "function twice(n){if(n>35){return n*9223372036854775807;}return n+n;}";
        Trees plain = Check.loaded(100, text);
        plain.start(5, 0);
        plain.run(20001);
        String outcome = Check.outcome(plain);
        String out = Check.out(plain);
        int steps = plain.total(0);
        int changes = plain.total(9);
        Check.due("not entered", plain.total(10), 0);
        for (int stride = 5; stride < 16; stride++) {
            Trees x = Check.loaded(1, text);
            x.start(5, 0);
            while (x.run(stride) == stride) {
                x.compile();
            }
            Check.due("outcome by " + stride, Check.outcome(x), outcome);
            Check.due("out by " + stride, Check.out(x), out);
            Check.due("steps by " + stride, x.total(0), steps);
            Check.due("changes by " + stride, x.total(9), changes);
            Check.due("entered by " + stride, x.total(10) > 0, true);
        }
    }

    /** What a load brings takes the place of all that was, however often. */
    private static void manyLoads() {
        Trees x = new Trees(1);
        String text = "function main(a,b){i=0;while(true){define(\"function longerName\"+i+\"(){return 1+\"+i+\";}\");i=i+1;}}";
        for (int i = 0; i < 30; i++) {
            Check.due("load", x.load(Check.feed(x, text)), 5);
            x.start(0, 0);
            x.run(20001);
            Check.due("error", Check.outcome(x), "E9@6");
            Check.due("roots", x.total(5), 60);
        }
        Check.due("name of the last root", x.root(59, 30), 'l');
        Check.due("name of the last root", x.root(59, 41), '4');
        Check.due("behind the name", x.root(59, 42), NONE);
        Check.due("its nodes", x.root(59, 0), 4);
    }
}
