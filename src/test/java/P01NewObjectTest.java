/** Promise 1: nothing is stored in a new object. */
public final class P01NewObjectTest {
    public static void main(String[] args) {
        Check check = new Check();
        TrustChain x = new TrustChain();
        check.same("count(0)", x.count(0), 0);
        check.same("count(1)", x.count(1), 0);
        check.same("count(2)", x.count(2), 0);
        check.same("count(3)", x.count(3), -1);
        check.same("count(4)", x.count(4), 0);
        check.same("wrong()", x.wrong(), -1);
        check.outOfBounds("chain(0)", () -> x.chain(0));
        check.outOfBounds("part(0, 0)", () -> x.part(0, 0));
        check.outOfBounds("listPart(0, 0)", () -> x.listPart(0, 0));
        check.outOfBounds("trust(0, true)", () -> x.trust(0, true));
        check.outOfBounds("digest(0, 0)", () -> x.digest(0, 0));
        check.outOfBounds("signed(false, 0, 0)", () -> x.signed(false, 0, 0));
        check.outOfBounds("signed(true, 0, 0)", () -> x.signed(true, 0, 0));
        check.outOfBounds("covers(0, 0, 0, 0, 0)", () -> x.covers(0, 0, 0, 0, 0));
        check.outOfBounds("validate(0, 0, 1, false)", () -> x.validate(0, 0, 1, false));
        TrustChain y = new TrustChain();
        y.feed(1, 2, 3, 4, 5);
        check.same("count(4) of another object", x.count(4), 0);
        check.end();
    }
}
