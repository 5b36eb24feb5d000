/** Promise 8: the parts of a LIST. */
public final class P08ListPartTest {
    private static final Key ROOT = Key.small(1);
    private static final Check CHECK = new Check();

    public static void main(String[] args) {
        Store store = new Store();
        TrustChain x = store.x;
        store.list(new Maker("root", ROOT).from("700101000001Z", "690101000000Z"));
        parts(x, 0, 1, -31536000, 0, 0);
        Maker maker = new Maker("root", ROOT).revoking(1, 2, 300);
        maker.entries.add(Maker.entry(4, Maker.extension("1.2.3", true, Node.raw(1)),
            Maker.extension("1.2.4", true, Node.raw(1)), Maker.extension("1.2.5", false, Node.raw(1))));
        maker.entries.add(Maker.entry(5, Maker.extension(21, true, Node.octets(0x0A, 1)),
            Maker.extension(35, true, Node.raw())));
        maker.with(Maker.extension(28, true, Node.raw()), Maker.extension(21, true, Node.raw()),
            Maker.extension(20, true, Node.integer(1)), Maker.extension(35, true, Node.seq(Node.octets(0x80, 1))));
        store.list(maker.from("500101000000Z", "491231235959Z"));
        parts(x, 1, -631152000L, 2524607999L, 5, 5);
        CHECK.illegal("listPart(0, 4)", () -> x.listPart(0, 4));
        CHECK.illegal("listPart(0, -1)", () -> x.listPart(0, -1));
        CHECK.illegal("listPart(2, 4), both wrong", () -> x.listPart(2, 4));
        CHECK.outOfBounds("listPart(2, 3)", () -> x.listPart(2, 3));
        CHECK.outOfBounds("listPart(-1, 0)", () -> x.listPart(-1, 0));
        CHECK.end();
    }

    private static void parts(TrustChain x, int l, long... due) {
        for (int what = 0; what < due.length; what++) {
            CHECK.same("listPart(" + l + ", " + what + ")", x.listPart(l, what), due[what]);
        }
    }
}
