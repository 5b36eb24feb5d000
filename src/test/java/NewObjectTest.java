/** Promise 1: a new object has nothing stored. */
public final class NewObjectTest {
    public static void main(String[] args) {
        TrustChain x = new TrustChain();
        boolean empty = x.count(0) == 0 && x.count(1) == 0 && x.count(2) == 0 && x.count(3) == -1 && x.count(4) == 0;
        if (!empty || x.wrong() != -1) {
            System.out.println("a new object is not empty");
            System.exit(1);
        }
    }
}
