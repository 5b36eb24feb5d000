/** Promise 13: the counts. */
public final class P13CountTest {
    public static void main(String[] args) {
        Check check = new Check();
        Key root = Key.small(1);
        Key leaf = Key.small(2);
        Store store = new Store();
        TrustChain x = store.x;
        store.certificate(new Maker("leaf", leaf, "root", root));
        store.trusted(new Maker("root", root, "root", root));
        store.trusted(new Maker("root", root, "root", root));
        store.list(new Maker("root", root));
        x.feed(0, 0, 0, 0, 0);
        counts(check, x, 3, 1, 0, -1, 20);
        check.same("without a FAULT", x.validate(0, Maker.NOON_2020, 2, false), 0);
        counts(check, x, 3, 1, 1, -1, 20);
        check.same("with a FAULT", x.validate(0, 0, 2, false), 2);
        counts(check, x, 3, 1, 2, 0, 20);
        check.outOfBounds("no target", () -> x.validate(3, 0, 2, false));
        counts(check, x, 3, 1, 2, 0, 20);
        check.same("no CHAIN", x.validate(0, 0, 1, false), 10);
        counts(check, x, 3, 1, 0, -1, 20);
        check.same("a trusted one", x.validate(1, 0, 1, false), 0);
        counts(check, x, 3, 1, 1, -1, 20);
        check.illegal("certificate", () -> x.certificate(20, false));
        counts(check, x, 3, 1, 1, -1, 0);
        for (int what : new int[] {-1, 5, Integer.MIN_VALUE, Integer.MAX_VALUE}) {
            check.illegal("count(" + what + ")", () -> x.count(what));
        }
        check.end();
    }

    private static void counts(Check check, TrustChain x, int... due) {
        for (int what = 0; what < due.length; what++) {
            check.same("count(" + what + ")", x.count(what), due[what]);
        }
    }
}
