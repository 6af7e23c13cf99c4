/** Promise 1: a new object. */
public final class FirstTest {
    private FirstTest() {
    }

    public static void main(String[] args) {
        SpaceHouse x = new SpaceHouse();
        Check.due("messages", x.messages(), 6);
        Check.end("FirstTest");
    }
}
