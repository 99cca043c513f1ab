import java.math.BigInteger;
import java.util.Random;

/** + - * / and all comparisons of numbers of every size, LONG or BIG, against those of the Java library. */
final class NumbersTest {
    private static final BigInteger LIMIT = BigInteger.TEN.pow(36);
    private static final BigInteger GREAT = BigInteger.TEN.pow(20);

    public static void main(String[] args) {
        edges();
        anyNumbers();
        Check.end("NumbersTest");
    }

    /** Numbers around those where something is carried, borrowed or becomes BIG, each with each. */
    private static void edges() {
        String[] some = {"0", "1", "999999999", "1000000000", "9223372036854775807", "9223372036854775808",
            "1000000000000000000", "999999999999999999999999999", "1000000000000000000000000000",
            "999999999999999999999999999999999999"};
        for (String a : some) {
            for (String b : some) {
                pair(new BigInteger(a), new BigInteger(b), false);
                pair(new BigInteger(a).negate(), new BigInteger(b), false);
                pair(new BigInteger(a), new BigInteger(b).negate(), false);
                pair(new BigInteger(a).negate(), new BigInteger(b).negate(), false);
            }
        }
        // What is left of a division is one below what is taken, limb by limb.
        pair(new BigInteger("2000000004000000000"), new BigInteger("1000000005"), true);
        // Small, and BIG all the same.
        for (int a = -2; a < 3; a++) {
            for (int b = -2; b < 3; b++) {
                pair(BigInteger.valueOf(a), BigInteger.valueOf(b), true);
            }
        }
    }

    private static void anyNumbers() {
        Random random = new Random(11);
        for (int i = 0; i < 250; i++) {
            pair(any(random), any(random), random.nextInt(4) == 0);
        }
    }

    private static BigInteger any(Random random) {
        int digits = 1 + random.nextInt(36);
        StringBuilder all = new StringBuilder();
        int like = random.nextInt(3);
        for (int i = 0; i < digits; i++) {
            all.append(like == 0 || random.nextInt(3) > 0 ? random.nextInt(10) : like == 1 ? 9 : 0);
        }
        BigInteger number = new BigInteger(all.toString());
        return random.nextBoolean() ? number : number.negate();
    }

    /** As an E of the language, as it is, or BIG in any case. */
    private static String written(BigInteger number, boolean big) {
        String plain = number.signum() < 0 ? "(0-" + number.negate() + ")" : number.toString();
        return big && number.abs().compareTo(GREAT) < 0 ? "(" + plain + "+" + GREAT + "-" + GREAT + ")" : plain;
    }

    private static void pair(BigInteger a, BigInteger b, boolean big) {
        String head = "function main(){x=" + written(a, big) + ";y=" + written(b, big) + ";";
        int compared = a.compareTo(b);
        StringBuilder body = new StringBuilder("print((x<y)+\"\"+(x<=y)+(x>y)+(x>=y)+(x==y)+(x!=y));");
        StringBuilder want = new StringBuilder();
        want.append(compared < 0).append(compared <= 0).append(compared > 0).append(compared >= 0).append(compared == 0)
                .append(compared != 0).append('\n');
        BigInteger[] results = {a.add(b), a.subtract(b), a.multiply(b), b.signum() == 0 ? LIMIT : a.divide(b)};
        String signs = "+-*/";
        for (int i = 0; i < 4; i++) {
            String e = "x" + signs.charAt(i) + "y";
            if (results[i].abs().compareTo(LIMIT) < 0) {
                body.append("print(").append(e).append(");");
                want.append(results[i]).append('\n');
            } else {
                Trees x = Check.ran(head + e + ";}");
                Check.due(a + " " + signs.charAt(i) + " " + b, x.error(0), i == 3 ? 2 : 8);
            }
        }
        Check.due(a + " with " + b, Check.out(Check.ran(head + body + "}")), want.toString());
    }
}
