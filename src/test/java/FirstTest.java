/** Promise 1: a new object. */
public final class FirstTest {
    public static void main(String[] args) {
        SeaCells x = new SeaCells();
        for (int what = 0; what <= 5; what++) {
            if (x.count(what) != 0) throw new AssertionError(what);
        }
    }
}
