/** Promise 12: the CHAIN of the latest verdict. */
public final class P12ChainTest {
    public static void main(String[] args) {
        Check check = new Check();
        Key root = Key.small(1);
        Key leaf = Key.small(2);
        Store store = new Store();
        TrustChain x = store.x;
        store.trusted(new Maker("root", root, "root", root));
        store.certificate(new Maker("leaf", leaf, "root", root));
        check.outOfBounds("chain(0) before any", () -> x.chain(0));
        x.validate(1, Maker.NOON_2020, 2, false);
        check.same("chain(0)", x.chain(0), 1);
        check.same("chain(1)", x.chain(1), 0);
        check.outOfBounds("chain(2)", () -> x.chain(2));
        check.outOfBounds("chain(-1)", () -> x.chain(-1));
        check.outOfBounds("chain(16)", () -> x.chain(16));
        check.outOfBounds("chain(max)", () -> x.chain(Integer.MAX_VALUE));
        check.illegal("validate that throws", () -> x.validate(1, 0, 0, false));
        check.outOfBounds("validate that throws", () -> x.validate(2, 0, 1, false));
        check.same("chain(1) stays", x.chain(1), 0);
        check.same("a FAULT", x.validate(1, 0, 2, false), 2);
        check.same("chain(0) of a FAULT", x.chain(0), 1);
        check.same("chain(1) of a FAULT", x.chain(1), 0);
        check.same("a shorter one", x.validate(0, 0, 2, false), 0);
        check.same("chain(0)", x.chain(0), 0);
        check.outOfBounds("chain(1)", () -> x.chain(1));
        check.same("no CHAIN", x.validate(1, 0, 1, false), 10);
        check.outOfBounds("chain(0) of 10", () -> x.chain(0));
        longest(check);
        check.end();
    }

    /** Sixteen, each the issuer of the one before it. */
    private static void longest(Check check) {
        Key key = Key.small(1);
        Store store = new Store();
        for (int n = 0; n < 16; n++) {
            Maker maker = new Maker("n" + n, key, "n" + (n + 1), key).with(Maker.ca());
            store.certificate(maker.certificate(), n == 15);
        }
        check.same("depth 15", store.x.validate(0, Maker.NOON_2020, 15, false), 10);
        check.same("depth 16", store.x.validate(0, Maker.NOON_2020, 16, false), 0);
        for (int k = 0; k < 16; k++) {
            check.same("chain(" + k + ")", store.x.chain(k), k);
        }
        check.outOfBounds("chain(16)", () -> store.x.chain(16));
    }
}
