/** A new object answers. */
public final class FirstTest {
    public static void main(String[] args) {
        Check check = new Check();
        check.due("count(0)", new CelSheets().count(0), 0);
        check.end();
    }
}
