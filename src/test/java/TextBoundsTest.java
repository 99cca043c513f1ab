import java.util.Arrays;

/**
 * What is too long, too many, too deep or too early in a TEXT: each method has one sentence of the chapter TEXTS, on
 * both sides of its boundary.
 */
final class TextBoundsTest {
    private static final int NONE = GraftTrees.NONE;

    public static void main(String[] args) {
        tapeOf4000();
        placesFromZero();
        blanks();
        comments();
        wordsOfTwelve();
        lettersOfWords();
        numbersOf36();
        stringsOf40();
        bytesOfStrings();
        stringsWithoutEnd();
        signsAlone();
        tokensAsLongAsTheyGo();
        wordsThatAreNoNames();
        emptyTexts();
        endsTooEarly();
        tokensThatCannotStand();
        leftOfEquals();
        Check.end("TextBoundsTest");
    }

    /** "THE TAPE has at most 4,000 bytes." */
    private static void tapeOf4000() {
        String last = "function g(){12;}";
        String text = "function main(){}" + Check.times(" ", 4000 - 17 - last.length()) + last;
        Trees x = new Trees(1);
        Check.due("bytes", Check.feed(x, text), 4000);
        Check.due("a byte more", x.feed(0, 0, 0, 0, 0), NONE);
        Check.due("load of all", x.load(4000), 6);
        Check.due("place of the last node", x.node(5, 0, 1), 3996);
        Trees y = new Trees(1);
        Check.feed(y, text.substring(20));
        Check.due("the last twenty that have place", y.feed(0x20202020, 0x20202020, 0x20202020, 0x20202020, 0x20202020),
                4000);
    }

    /** "A TEXT is read from the left; places are its bytes, from 0." */
    private static void placesFromZero() {
        Check.faulty("$", 1, 0);
        Check.faulty(Check.times(" ", 3999) + "$", 1, 3999);
        Check.faulty(Check.times(" ", 4000), 2, 4000);
    }

    /** "BLANKS: 10, 32": all other bytes are TOKENS, parts of them, or none. */
    private static void blanks() {
        String text = " function f(){}";
        for (int b = 0; b < 256; b++) {
            char c = (char) b;
            if (b == 10 || b == 32) {
                Check.good(c + text);
            } else if (b == '"') {
                Check.faulty(c + text, 1, 16);
            } else if (b == '&' || b == '|') {
                Check.faulty(c + text, 1, 1);
            } else if (b < 128 && (Character.isLetterOrDigit(c) || "(){}[],;.=!<>+-*/".indexOf(c) >= 0)) {
                Check.faulty(c + text, 2, 0);
            } else {
                Check.faulty(c + text, 1, 0);
            }
        }
    }

    /** "and from // up to the next 10 or the end". */
    private static void comments() {
        StringBuilder any = new StringBuilder();
        for (int b = 0; b < 256; b++) {
            any.append(b == 10 ? "" : (char) b);
        }
        Check.good("function f(){}//" + any);
        Check.good("//" + any + "\nfunction f(){}");
        Check.good("//\n//\nfunction f(){}//");
        Check.faulty("//function f(){}", 2, 16);
        Check.faulty("function f(){//}", 2, 16);
        Check.faulty("function f(){}//\n$", 1, 17);
        Check.faulty("function f(){}/", 2, 14);
        Check.faultyBody("a / / b;", 2, 4);
        Check.says("return 8//4;\n/2;", "4");
        Check.says("return 8///2;\n;", "8");
        Check.says("return \"//\";", "//");
    }

    /** "WORDS (a letter, then letters and digits, at most 12 in all)"; "a WORD .. that is too long: its begin". */
    private static void wordsOfTwelve() {
        Check.good("function abcdefghijkl(){}");
        Check.faulty("function abcdefghijklm(){}", 1, 9);
        Check.good("function f(b,a23456789012){}");
        Check.faulty("function f(b,a234567890123){}", 1, 13);
        Check.goodBody("a.abcdefghijkl; abcdefghijkl = 1;");
        Check.faultyBody("a.abcdefghijklm;", 1, 2);
        Check.faultyBody("a; abcdefghijklm = 1;", 1, 3);
        Check.faultyBody("a;" + Check.times("z", 200), 1, 2);
        Check.faulty("functionfunction f(){}", 1, 0);
        Check.faulty("functionfunc f(){}", 2, 0);
        Trees x = Check.ran("function abcdefghijkl(){return 7;}function main(){return abcdefghijkl();}");
        Check.due("outcome", Check.outcome(x), "7");
        Check.due("letter 12", x.root(4, 41), 'l');
        Check.due("no letter 13", x.root(4, 42), NONE);
        // All twelve letters count.
        Check.due("other names", Check.outcome(Check.ran("function abcdefghijkl(){return 7;}"
                + "function abcdefghijkm(){return 8;}function main(){return abcdefghijkl();}")), "7");
    }

    /** "a letter, then letters and digits": from a to z, A to Z, 0 to 9, and none beside them. */
    private static void lettersOfWords() {
        for (char c : "azAZ".toCharArray()) {
            Check.goodBody(c + ";" + c + "0" + c + "9;");
        }
        for (char c : "@`".toCharArray()) {
            Check.faultyBody("a" + c + ";", 1, 1);
            Check.faultyBody("a;" + c + "a;", 1, 2);
        }
        // [ and { stand behind Z and z, / and : around the digits.
        Check.faultyBody("a{", 2, 1);
        Check.faultyBody("Z[", 2, 2);
        Check.faultyBody("a0:;", 1, 2);
        Check.faultyBody("a0/;", 2, 3);
        Check.faultyBody("a_b;", 1, 1);
        Check.faultyBody("0a;", 2, 1);
        Check.faultyBody("9Z;", 2, 1);
    }

    /** "NUMBERS (1 to 36 digits)"; "a .. NUMBER that is too long: its begin". */
    private static void numbersOf36() {
        Check.says("return 0+\"\"+9;", "09");
        Check.says("return " + Check.times("9", 36) + ";", Check.times("9", 36));
        Check.says("return " + Check.times("0", 35) + "7;", "7");
        Check.goodBody(Check.times("0", 36) + ";");
        Check.faultyBody(Check.times("0", 37) + ";", 1, 0);
        Check.faultyBody("a+ 1" + Check.times("0", 36) + ";", 1, 3);
        Check.faultyBody(Check.times("1", 300) + ";", 1, 0);
    }

    /** "STRINGS (", at most 40 bytes .., and ")"; "a 41st byte of a STRING". */
    private static void stringsOf40() {
        Check.says("return \"\";", "");
        Check.says("return \"" + Check.times("s", 40) + "\";", Check.times("s", 40));
        Check.faultyBody("\"" + Check.times("s", 41) + "\";", 1, 41);
        Check.faultyBody("a+\"" + Check.times(" ", 200) + "\";", 1, 43);
        Check.faultyBody("\"" + Check.times("s", 40) + "\u007f\";", 1, 41);
        Check.goodBody("\"" + Check.times("s", 40) + "\"+\"" + Check.times("t", 40) + "\";");
    }

    /** "bytes 32 .. 126 but "" : the first other one is the FAULT's place. */
    private static void bytesOfStrings() {
        for (int b = 0; b < 256; b++) {
            if (b >= 32 && b <= 126) {
                String one = b == '"' ? "" : "" + (char) b;
                Check.says("return \"a" + one + "\";", "a" + one);
            } else {
                Check.faultyBody("\"a" + (char) b + "\";", 1, 2);
            }
        }
    }

    /** "(.. the TEXT's length in a STRING)": also when more bytes stand on the tape. */
    private static void stringsWithoutEnd() {
        Check.faulty("function f(){\"", 1, 14);
        Check.faulty("function f(){\"ab", 1, 16);
        Check.faulty("function f(){\"" + Check.times("s", 39), 1, 53);
        Check.faulty("function f(){\"" + Check.times("s", 40), 1, 54);
        Check.faulty("function f(){\"" + Check.times("s", 41), 1, 54);
        Trees x = new Trees(1);
        Check.feed(x, "function f(){\"ab\";}");
        Check.due("load", x.load(16), NONE);
        Check.due("fault", x.fault(0), 1);
        Check.due("place", x.fault(1), 16);
    }

    /** "the one behind a & or | that is alone". */
    private static void signsAlone() {
        Check.faultyBody("a & b;", 1, 3);
        Check.faultyBody("a | b;", 1, 3);
        Check.faultyBody("a &| b;", 1, 3);
        Check.faultyBody("a |& b;", 1, 3);
        Check.faultyBody("a &&& b;", 1, 5);
        Check.faultyBody("a ||| b;", 1, 5);
        Check.faulty("function f(){a&", 1, 15);
        Check.faulty("function f(){a|", 1, 15);
        Check.faulty("function f(){a&&", 2, 16);
        Check.faulty("function f(){a||", 2, 16);
        Check.goodBody("a&&b||a;");
    }

    /** "TOKENS, as long as they go". */
    private static void tokensAsLongAsTheyGo() {
        Check.goodBody("a==b;a!=b;a<=b;a>=b;a=!b;a<b;a>b;");
        Check.faultyBody("a= =b;", 2, 3);
        Check.faultyBody("a! =b;", 2, 1);
        Check.faultyBody("a< =b;", 2, 3);
        Check.faultyBody("a> =b;", 2, 3);
        Check.faultyBody("a===b;", 2, 3);
        Check.faultyBody("a!==b;", 2, 3);
        Check.faultyBody("a<==b;", 2, 3);
        Check.faultyBody("a>==b;", 2, 3);
        Check.faultyBody("a<>b;", 2, 2);
        Check.faultyBody("a& &b;", 1, 2);
        Check.faultyBody("1 2;", 2, 2);
        Check.faultyBody("a b;", 2, 2);
        Check.says("return 12+3;", "15");
        Check.says("truex=1;return truex;", "1");
    }

    /** "NAMES are all WORDS but function if else while return break continue true false null." */
    private static void wordsThatAreNoNames() {
        String[] words = {"function", "if", "else", "while", "return", "break", "continue", "true", "false", "null"};
        for (String word : words) {
            Check.faulty("function " + word + "(){}", 2, 9);
            Check.faulty("function f(" + word + "){}", 2, 11);
            Check.faulty("function f(a," + word + "){}", 2, 13);
            Check.faultyBody("a." + word + ";", 2, 2);
            boolean isAtom = word.equals("true") || word.equals("false") || word.equals("null");
            Check.faultyBody("(" + word + ");", isAtom ? 0 : 2, 1);
            Check.good("function " + word + "1(){}");
            Check.good("function x" + word + "(){}");
            Check.good("function " + word.substring(1) + "(){}");
            Check.good("function " + word.substring(0, word.length() - 1) + "(){}");
            Check.good("function " + word.substring(0, 1).toUpperCase() + word.substring(1) + "(){}");
        }
    }

    /** "TEXT: FUNCTION {FUNCTION}": one at least. */
    private static void emptyTexts() {
        Check.faulty("", 2, 0);
        Check.faulty(" ", 2, 1);
        Check.faulty(" \n //function", 2, 13);
        Check.good("function f(){}");
        Check.good("function f(){} \n//");
    }

    private static final String EVERYTHING = "function f ( a , b ) { if ( a == 1 ) { x = a + 2 ; } else { x . y = ! true ; }"
            + " while ( a <= b && null != \"s\" || false ) { break ; continue ; } a [ 1 * 2 ] = g ( 1 - 3 , ( a ) / b ) ;"
            + " return ; return a > b ; }";

    /** "2 .. (the TEXT's length, if it ends too early ..)": behind each TOKEN but the last one. */
    private static void endsTooEarly() {
        Check.good(EVERYTHING);
        String[] tokens = EVERYTHING.split(" ");
        StringBuilder begun = new StringBuilder();
        for (int i = 0; i < tokens.length; i++) {
            Check.faulty(begun.toString(), 2, begun.length());
            Check.faulty(begun + " \n", 2, begun.length() + 2);
            Check.faulty(begun + " //}", 2, begun.length() + 4);
            begun.append(i == 0 ? "" : " ").append(tokens[i]);
        }
        Check.good(begun.toString());
        // The end is that of the bytes which are loaded, whatever stands behind it.
        Trees x = new Trees(1);
        Check.feed(x, "function f(){}");
        Check.due("load of one byte less", x.load(13), NONE);
        Check.due("fault", x.fault(0), 2);
        Check.due("place", x.fault(1), 13);
    }

    /** "2 a TOKEN that can't stand there": function ahead of each TOKEN of a FUNCTION. */
    private static void tokensThatCannotStand() {
        String[] tokens = EVERYTHING.split(" ");
        StringBuilder begun = new StringBuilder(tokens[0]);
        for (int i = 1; i < tokens.length; i++) {
            String rest = String.join(" ", Arrays.copyOfRange(tokens, i, tokens.length));
            Check.faulty(begun + " function " + rest, 2, begun.length() + 1);
            Check.faulty(begun + " function", 2, begun.length() + 1);
            begun.append(' ').append(tokens[i]);
        }
        Check.faulty(begun + " ;", 2, begun.length() + 1);
        Check.faulty("function (){}", 2, 9);
        Check.faulty("function 1(){}", 2, 9);
        Check.faulty("function f{}", 2, 10);
        Check.faulty("function f(a;){}", 2, 12);
        Check.faulty("function f()1;", 2, 12);
        Check.faulty(begun + " function", 2, begun.length() + 9);
    }

    /** "left of =, as a whole, stands a NAME alone, without ( ), or an ATOM that ends with . NAME or [ E ]". */
    private static void leftOfEquals() {
        Check.goodBody("a=1;a.b=1;a[1]=1;(a).b=1;(a)[1]=1;f().b=1;f()[1]=1;1 .b=1;\"s\"[1]=1;null.b=1;true.b=1;");
        Check.goodBody("a=b=1;a.b=b[1]=1;f(a=1);(a=1);a[b=1]=1;a.b.c=1;a[1][2]=1;return a=1;");
        Check.faultyBody("(a)=1;", 2, 3);
        Check.faultyBody("(a.b)=1;", 2, 5);
        Check.faultyBody("(a[1])=1;", 2, 6);
        Check.faultyBody("!a=1;", 2, 2);
        Check.faultyBody("!a.b=1;", 2, 4);
        Check.faultyBody("f()=1;", 2, 3);
        Check.faultyBody("a.b()=1;", 2, 5);
        Check.faultyBody("1=1;", 2, 1);
        Check.faultyBody("\"s\"=1;", 2, 3);
        Check.faultyBody("true=1;", 2, 4);
        Check.faultyBody("null=1;", 2, 4);
        for (String sign : "* / + - < <= > >= == != && ||".split(" ")) {
            Check.faultyBody("a" + sign + "b=1;", 2, 2 + sign.length());
            Check.faultyBody("a" + sign + "b.c=1;", 2, 4 + sign.length());
            Check.faultyBody("a.c" + sign + "b[1]=1;", 2, 7 + sign.length());
        }
        Check.faultyBody("a=b+c=1;", 2, 5);
        Check.faultyBody("a=(b)=1;", 2, 5);
        Check.faultyBody("a=1=b;", 2, 3);
    }
}
