/** Promise 6: a CERTIFICATE is TRUSTED or not from now on. */
public final class P06TrustTest {
    public static void main(String[] args) {
        Check check = new Check();
        Key root = Key.small(1);
        Store store = new Store();
        TrustChain x = store.x;
        store.trusted(new Maker("root", root, "root", root));
        store.certificate(new Maker("leaf", Key.small(2), "root", root));
        check.yes("trust(0, true)", x.trust(0, true));
        check.no("trust(1, false)", x.trust(1, false));
        check.same("validate(1)", x.validate(1, Maker.NOON_2020, 2, false), 0);
        check.yes("trust(0, false)", x.trust(0, false));
        check.same("validate(1) without trust", x.validate(1, Maker.NOON_2020, 2, false), 10);
        check.no("trust(0, false) again", x.trust(0, false));
        check.no("trust(1, true)", x.trust(1, true));
        check.same("validate(1) of a trusted one", x.validate(1, 0, 1, true), 0);
        check.yes("trust(1, false)", x.trust(1, false));
        check.no("trust(0, true) at the end", x.trust(0, true));
        check.same("validate(1) at the end", x.validate(1, Maker.NOON_2020, 2, false), 0);
        check.outOfBounds("trust(-1)", () -> x.trust(-1, true));
        check.outOfBounds("trust(2)", () -> x.trust(2, true));
        check.outOfBounds("trust(max)", () -> x.trust(Integer.MAX_VALUE, true));
        check.end();
    }
}
