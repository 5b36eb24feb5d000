import java.nio.ByteBuffer;

/** Promise 10: SHA-256 of the TBS, for every size of the last block. */
public final class P10DigestTest {
    public static void main(String[] args) {
        Check check = new Check();
        Key key = Key.small(1);
        StringBuilder text = new StringBuilder("a");
        for (int n = 0; n < 70; n++) {
            Maker maker = new Maker(text.toString(), key, "root", key);
            compare(check, maker);
            text.append('b');
        }
        Maker large = new Maker("c".repeat(1500), key, "root", key);
        compare(check, large);
        Store store = new Store();
        store.certificate(large);
        check.outOfBounds("digest(0, 8)", () -> store.x.digest(0, 8));
        check.outOfBounds("digest(0, -1)", () -> store.x.digest(0, -1));
        check.outOfBounds("digest(1, 0)", () -> store.x.digest(1, 0));
        check.outOfBounds("digest(-1, 0)", () -> store.x.digest(-1, 0));
        check.end();
    }

    private static void compare(Check check, Maker maker) {
        Store store = new Store();
        store.certificate(maker);
        ByteBuffer due = ByteBuffer.wrap(Key.sha256(maker.body.write()));
        for (int word = 0; word < 8; word++) {
            check.same("digest(0, " + word + ")", store.x.digest(0, word), due.getInt());
        }
    }
}
