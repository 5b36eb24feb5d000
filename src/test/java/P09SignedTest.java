import java.math.BigInteger;

/** Promise 9: SIGNED, for keys of many sizes, and what is not quite a signature. */
public final class P09SignedTest {
    private static final Key ROOT = Key.small(1);
    private static final Key LEAF = Key.small(2);
    private static final Check CHECK = new Check();

    public static void main(String[] args) {
        ordinary();
        sizes();
        almost();
        forms();
        refusals();
        CHECK.end();
    }

    private static void ordinary() {
        Store store = new Store();
        store.certificate(new Maker("root", ROOT, "root", ROOT));
        store.certificate(new Maker("leaf", LEAF, "root", ROOT));
        store.list(new Maker("root", ROOT));
        store.list(new Maker("root", LEAF));
        boolean[][] due = {{true, false}, {true, false}};
        for (int c = 0; c < 2; c++) {
            for (int by = 0; by < 2; by++) {
                CHECK.same("signed", store.x.signed(false, c, by) ? 1 : 0, due[c][by] ? 1 : 0);
                CHECK.same("signed, again", store.x.signed(false, c, by) ? 1 : 0, due[c][by] ? 1 : 0);
                CHECK.same("signed of a list", store.x.signed(true, c, by) ? 1 : 0, c == by ? 1 : 0);
            }
        }
    }

    private static void sizes() {
        int[] bits = {496, 497, 500, 503, 504, 505, 511, 512, 513, 527, 528, 529, 544, 545, 768, 1023, 1024, 1025, 1536, 2017,
            2047, 2048};
        long[] exponents = {3, 5, 17, 65537, Integer.MAX_VALUE, 1431655765};
        for (int i = 0; i < bits.length; i++) {
            Key key = new Key(bits[i], exponents[i % exponents.length], 100 + i);
            Store store = new Store();
            store.certificate(new Maker("root", key, "root", key));
            store.certificate(new Maker("leaf", LEAF, "root", key).serial(i + 2));
            CHECK.yes("signed by a key of bits " + bits[i], store.x.signed(false, 0, 0));
            CHECK.yes("another by a key of bits " + bits[i], store.x.signed(false, 1, 0));
        }
    }

    private static boolean isSigned(Key key, byte[] signature) {
        Store store = new Store();
        Maker maker = new Maker("leaf", LEAF, "root", key);
        maker.signature = Node.octets(0x03, behindZero(signature));
        store.certificate(maker);
        store.certificate(new Maker("root", key, "root", key));
        return store.x.signed(false, 0, 1);
    }

    private static byte[] behindZero(byte[] octets) {
        byte[] result = new byte[octets.length + 1];
        System.arraycopy(octets, 0, result, 1, octets.length);
        return result;
    }

    private static byte[] bodyOf(Key key) {
        Maker maker = new Maker("leaf", LEAF, "root", key);
        maker.certificate();
        return maker.body.write();
    }

    private static void almost() {
        byte[] good = ROOT.sign(bodyOf(ROOT));
        CHECK.yes("the signature", isSigned(ROOT, good));
        for (int bit = 0; bit < 512; bit += 37) {
            byte[] bad = good.clone();
            bad[bit / 8] ^= (byte) (1 << bit % 8);
            CHECK.no("a bit of it changed", isSigned(ROOT, bad));
        }
        CHECK.no("an octet more", isSigned(ROOT, behindZero(good)));
        CHECK.no("an octet less", isSigned(ROOT, java.util.Arrays.copyOf(good, 63)));
        CHECK.no("no octets", isSigned(ROOT, new byte[0]));
        CHECK.no("0", isSigned(ROOT, new byte[64]));
        CHECK.no("n", isSigned(ROOT, Key.octets(ROOT.n, 64)));
        Key wide = new Key(505, 65537, 77);
        BigInteger number = new BigInteger(1, wide.sign(bodyOf(wide)));
        CHECK.yes("of 505 bits", isSigned(wide, Key.octets(number, 64)));
        CHECK.no("n more", isSigned(wide, Key.octets(number.add(wide.n), 64)));
        Key short1 = new Key(504, 65537, 78);
        byte[] fits = short1.sign(bodyOf(short1));
        CHECK.yes("of 504 bits, 63 octets", isSigned(short1, fits));
        CHECK.no("of 504 bits, 64 octets", isSigned(short1, behindZero(fits)));
    }

    private static void forms() {
        for (int at = 0; at < 64; at++) {
            byte[] form = Key.form(bodyOf(ROOT), 64);
            form[at] ^= 1;
            if (new BigInteger(1, form).compareTo(ROOT.n) < 0) {
                CHECK.no("octet " + at + " of the form", isSigned(ROOT, ROOT.raise(form)));
            }
        }
        byte[] form = Key.form(bodyOf(ROOT), 64);
        CHECK.yes("the form", isSigned(ROOT, ROOT.raise(form)));
        CHECK.no("n less the form", isSigned(ROOT, Key.octets(ROOT.n.subtract(new BigInteger(1, ROOT.raise(form))), 64)));
        Maker changed = new Maker("leaf", LEAF, "root", ROOT);
        changed.certificate();
        changed.serial = Node.integer(2);
        Store store = new Store();
        store.certificate(changed);
        store.certificate(new Maker("root", ROOT, "root", ROOT));
        CHECK.no("of another TBS", store.x.signed(false, 0, 1));
    }

    private static void refusals() {
        Store store = new Store();
        store.certificate(new Maker("root", ROOT, "root", ROOT));
        TrustChain x = store.x;
        CHECK.outOfBounds("signed(false, 0, 1)", () -> x.signed(false, 0, 1));
        CHECK.outOfBounds("signed(false, 0, -1)", () -> x.signed(false, 0, -1));
        CHECK.outOfBounds("signed(false, 1, 0)", () -> x.signed(false, 1, 0));
        CHECK.outOfBounds("signed(false, -1, 0)", () -> x.signed(false, -1, 0));
        CHECK.outOfBounds("signed(true, 0, 0)", () -> x.signed(true, 0, 0));
        store.list(new Maker("root", ROOT));
        CHECK.yes("signed(true, 0, 0)", x.signed(true, 0, 0));
        CHECK.outOfBounds("signed(true, 1, 0)", () -> x.signed(true, 1, 0));
        CHECK.outOfBounds("signed(true, -1, 0)", () -> x.signed(true, -1, 0));
        CHECK.outOfBounds("signed(true, 0, 1)", () -> x.signed(true, 0, 1));
    }
}
