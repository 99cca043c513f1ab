/** What a program says: VALUES, ERRORS, OUT. */
final class ValuesTest {
    public static void main(String[] args) {
        Check.says("return a+b;", "7");
        Check.end("ValuesTest");
    }
}
