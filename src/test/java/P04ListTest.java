import java.math.BigInteger;

/** Promise 4: a LIST likewise, up to 8. */
public final class P04ListTest {
    private static final Key ROOT = Key.small(1);
    private static final Check CHECK = new Check();

    public static void main(String[] args) {
        numbersAndBounds();
        upTo2048Octets();
        upToEight();
        stands("nothing revoked", plain());
        stands("two entries", plain().revoking(1, 2));
        stands("the same serial twice", plain().revoking(1, 1));
        Node number = Node.integer(BigInteger.ONE.shiftLeft(159).subtract(BigInteger.ONE));
        stands("all extensions", plain().with(Maker.extension(20, true, number), Maker.issuerKey(7),
            Maker.extension(17, false, Node.raw()), Maker.extension(21, true, Node.raw(5))));
        stands("number 0", plain().with(Maker.extension(20, false, Node.integer(0))));
        for (int reason : new int[] {0, 1, 6, 8, 10}) {
            Maker maker = plain();
            maker.entries.add(Maker.entry(9, Maker.extension(21, true, Node.octets(0x0A, reason)),
                Maker.extension(20, false, Node.raw())));
            stands("reason " + reason, maker);
        }
        Maker maker = plain();
        maker.entries.add(Maker.entry(9, Maker.extension("1.2.3", true, Node.raw(1))));
        maker.entries.add(Maker.entry(10, Maker.extension("1.2.3", true, Node.raw(1))));
        stands("the same kind in two entries", maker);
        CHECK.end();
    }

    private static Maker plain() {
        return new Maker("root", ROOT);
    }

    private static void stands(String what, Maker maker) {
        Store store = new Store();
        try {
            CHECK.same(what, store.list(maker), 0);
            CHECK.same("wrong() of " + what, store.x.wrong(), -1);
        } catch (IllegalArgumentException refused) {
            CHECK.tell(what + " was WRONG at " + store.x.wrong());
        }
    }

    private static byte[] ofSize(int size) {
        int filling = size - 300;
        while (true) {
            byte[] text = plain().with(Maker.extension("1.2.3", false, Node.raw(new int[filling]))).list();
            if (text.length == size) {
                return text;
            }
            filling += text.length < size ? 1 : -1;
        }
    }

    private static void upTo2048Octets() {
        for (int size = 2045; size <= 2048; size++) {
            Store store = new Store();
            CHECK.same("a text of octets " + size, store.list(ofSize(size)), 0);
        }
        for (int size : new int[] {2049, 2060}) {
            Store store = new Store();
            store.feed(ofSize(size));
            CHECK.outOfBounds("a text of octets " + size, () -> store.x.list(size));
            CHECK.same("octets fed", store.x.count(4), 2060);
            CHECK.same("wrong()", store.x.wrong(), -1);
            CHECK.illegal("its first 2,048 octets", () -> store.x.list(2048));
            CHECK.same("stored", store.x.count(1), 0);
        }
    }

    /** One that is WRONG takes no number and no room; sixteen certificates leave room for lists. */
    private static void upToEight() {
        Store store = new Store();
        byte[] text = Reading.list().text();
        for (int n = 0; n < 8; n++) {
            CHECK.illegal("WRONG", () -> store.x.list(0));
            CHECK.same("number", store.list(text), n);
            CHECK.same("count(1)", store.x.count(1), n + 1);
        }
        CHECK.outOfBounds("a 9th of no octets", () -> store.x.list(0));
        CHECK.same("count(1)", store.x.count(1), 8);
        CHECK.same("wrong() stays", store.x.wrong(), -1);
        CHECK.same("a certificate has room", store.certificate(Reading.certificate()), 0);
    }

    private static void numbersAndBounds() {
        Store store = new Store();
        TrustChain x = store.x;
        byte[] text = plain().list();
        CHECK.illegal("list(0)", () -> x.list(0));
        CHECK.same("wrong()", x.wrong(), 0);
        for (int n = 0; n < 8; n++) {
            CHECK.same("number", store.list(text), n);
        }
        int fed = store.feed(text);
        CHECK.outOfBounds("list(-1)", () -> x.list(-1));
        CHECK.outOfBounds("a 9th", () -> x.list(text.length));
        CHECK.outOfBounds("a 9th that is WRONG", () -> x.list(1));
        CHECK.same("count(1)", x.count(1), 8);
        CHECK.same("count(0)", x.count(0), 0);
        CHECK.same("count(4)", x.count(4), fed);
        CHECK.illegal("a list is no certificate", () -> x.certificate(text.length, false));
        Store other = new Store();
        other.feed(text);
        CHECK.outOfBounds("list above what was fed", () -> other.x.list(fed + 1));
        CHECK.outOfBounds("list(2049)", () -> other.x.list(2049));
        CHECK.same("count(4) still", other.x.count(4), fed);
        CHECK.same("then it stands", other.x.list(text.length), 0);
        CHECK.same("count(4) behind it", other.x.count(4), 0);
    }
}
