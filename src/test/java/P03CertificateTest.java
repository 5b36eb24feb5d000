import java.math.BigInteger;

/** Promise 3: what stands is stored; bounds, and what happens to what was fed. Promise 5's test has what is WRONG. */
public final class P03CertificateTest {
    private static final Key ROOT = Key.small(1);
    private static final Key LEAF = Key.small(2);
    private static final Check CHECK = new Check();

    public static void main(String[] args) {
        numbersAndBounds();
        upTo2048Octets();
        partOfWhatWasFed();
        upToSixteen();
        whatMayStand();
        sizesOfKeys();
        CHECK.end();
    }

    private static Maker leaf() {
        return new Maker("leaf", LEAF, "root", ROOT);
    }

    private static void numbersAndBounds() {
        Store store = new Store();
        TrustChain x = store.x;
        byte[] text = leaf().certificate();
        int fed = store.feed(text);
        CHECK.outOfBounds("certificate(-1)", () -> x.certificate(-1, false));
        CHECK.outOfBounds("certificate(min)", () -> x.certificate(Integer.MIN_VALUE, false));
        CHECK.outOfBounds("certificate(max)", () -> x.certificate(Integer.MAX_VALUE, false));
        CHECK.outOfBounds("certificate above what was fed", () -> x.certificate(fed + 1, false));
        CHECK.same("count(4) still", x.count(4), fed);
        CHECK.same("the first number", x.certificate(text.length, false), 0);
        CHECK.same("count(4) behind it", x.count(4), 0);
        CHECK.illegal("certificate(0)", () -> x.certificate(0, false));
        CHECK.same("wrong() of no octets", x.wrong(), 0);
        store.feed(text);
        CHECK.illegal("one octet less", () -> x.certificate(text.length - 1, false));
        CHECK.same("wrong() of one octet less", x.wrong(), 0);
        CHECK.same("count(4) behind what is WRONG", x.count(4), 0);
        for (int n = 1; n < 16; n++) {
            CHECK.same("number", store.certificate(text, n % 2 == 0), n);
        }
        store.feed(text);
        CHECK.outOfBounds("a 17th", () -> x.certificate(text.length, false));
        CHECK.outOfBounds("a 17th that is WRONG", () -> x.certificate(3, false));
        CHECK.same("count(0)", x.count(0), 16);
        CHECK.same("count(4) stays", x.count(4), fed);
        CHECK.same("wrong() stays", x.wrong(), -1);
    }

    /** A text of so many octets: what is in an extension that is not known fills it up. */
    private static byte[] ofSize(int size) {
        int filling = size - 300;
        while (true) {
            byte[] text = leaf().with(Maker.extension("1.2.3", false, Node.raw(new int[filling]))).certificate();
            if (text.length == size) {
                return text;
            }
            filling += text.length < size ? 1 : -1;
        }
    }

    private static void upTo2048Octets() {
        for (int size = 2045; size <= 2048; size++) {
            Store store = new Store();
            CHECK.same("a text of octets " + size, store.certificate(ofSize(size), false), 0);
            CHECK.same("wrong()", store.x.wrong(), -1);
        }
        for (int size : new int[] {2049, 2050, 2060}) {
            Store store = new Store();
            byte[] text = ofSize(size);
            store.feed(text);
            CHECK.outOfBounds("a text of octets " + size, () -> store.x.certificate(size, false));
            CHECK.same("wrong() of a text that was not looked at", store.x.wrong(), -1);
            CHECK.same("octets fed", store.x.count(4), 2060);
            CHECK.illegal("its first 2,048 octets", () -> store.x.certificate(2048, false));
            CHECK.same("wrong() of those", store.x.wrong(), 0);
            CHECK.same("stored", store.x.count(0), 0);
        }
    }

    /** n may be all of it; what is behind the first n is gone with them. */
    private static void partOfWhatWasFed() {
        for (int more = 0; more < 60; more += 20) {
            Store store = new Store();
            byte[] text = ofSize(500);
            CHECK.same("octets fed", store.feed(text), 500);
            for (int n = 0; n < more; n += 20) {
                store.x.feed(-1, -1, -1, -1, -1);
            }
            int fed = 500 + more;
            CHECK.outOfBounds("one above what was fed", () -> store.x.certificate(fed + 1, false));
            CHECK.same("the first 500 of " + fed, store.x.certificate(500, false), 0);
            CHECK.same("octets fed then", store.x.count(4), 0);
            CHECK.outOfBounds("one of none", () -> store.x.certificate(1, false));
            CHECK.same("the next text", store.certificate(text, false), 1);
        }
    }

    /** One that is WRONG takes no number and no room. */
    private static void upToSixteen() {
        Store store = new Store();
        byte[] text = Reading.certificate().text();
        for (int n = 0; n < 16; n++) {
            CHECK.illegal("WRONG", () -> store.x.certificate(0, true));
            CHECK.same("number", store.certificate(text, n == 15), n);
            CHECK.same("count(0)", store.x.count(0), n + 1);
        }
        CHECK.outOfBounds("a 17th of no octets", () -> store.x.certificate(0, true));
        CHECK.same("count(0)", store.x.count(0), 16);
        CHECK.same("wrong() stays", store.x.wrong(), -1);
        CHECK.yes("the last is TRUSTED", store.x.trust(15, true));
        CHECK.no("the one before it is not", store.x.trust(14, true));
        CHECK.same("a list has room", store.list(Reading.list()), 0);
    }

    private static void stands(String what, Maker maker) {
        Store store = new Store();
        try {
            CHECK.same(what, store.certificate(maker), 0);
            CHECK.same("wrong() of " + what, store.x.wrong(), -1);
        } catch (IllegalArgumentException refused) {
            CHECK.tell(what + " was WRONG at " + store.x.wrong());
        }
    }

    private static void whatMayStand() {
        stands("a plain one", leaf());
        stands("one without extensions and with an empty SUBJECT", emptySubject());
        Maker maker = leaf();
        maker.subject = Node.seq(Maker.part("2.5.4.3", Node.text(0x13, "AZaz09 '()+,-./:=?")),
            Maker.part("0.0", Node.octets(0x16, 0, 1, 127)),
            Maker.part("2.999.268435455", Node.octets(0x0C, 0, 0x7F, 0xC2, 0x80, 0xDF, 0xBF, 0xE0, 0xA0, 0x80, 0xED, 0x9F,
                0xBF, 0xEE, 0x80, 0x80, 0xEF, 0xBF, 0xBF, 0xF0, 0x90, 0x80, 0x80, 0xF4, 0x8F, 0xBF, 0xBF)));
        stands("strings of all kinds", maker);
        maker = leaf();
        maker.subject = Node.seq(Node.set(Node.seq(Node.octets(0x06, 0x55, 0x81, 0x80, 0x80, 0x01), Node.text(0x13, "a"))));
        stands("80 within a number of an OID", maker);
        maker = leaf();
        maker.serial = Node.integer(BigInteger.ONE.shiftLeft(159).subtract(BigInteger.ONE));
        stands("the highest serial", maker);
        maker = leaf();
        maker.serial = Node.integer(128);
        stands("a serial with a leading 0", maker);
        maker = leaf();
        maker.signature = Node.bits(0);
        stands("no octets of signature", maker);
        maker = leaf();
        maker.times = Node.seq(Node.general("20500101000000Z"), Node.utc("500101000000Z"));
        stands("times in no order", maker);
        stands("all extensions", leaf().with(
            Maker.ca(255), Maker.usage(7, 0, 128), Maker.ownKey(0), Maker.issuerKey(1, 2, 3),
            Maker.names(Maker.dns("!~"), Node.text(0x81, "a@b"), Node.octets(0x87, 1, 2, 3, 4),
                Node.octets(0x87, new byte[16]), Maker.directory(Maker.name()), Maker.directory(Maker.name("d", "e"))),
            Maker.constraints(Maker.trees(0xA0, Maker.dns(""), Maker.directory(Maker.name())),
                Maker.trees(0xA1, Maker.dns("x"))),
            Maker.extension("1.2.3", false, Node.raw(1, 2, 3)), Maker.extension("1.2.4", true, Node.raw())));
        stands("BASIC without all", leaf().with(Maker.extension(19, false, Node.seq())));
        stands("just excluded trees", leaf().with(Maker.constraints(Maker.trees(0xA1, Maker.dns("x")))));
        stands("just permitted trees", leaf().with(Maker.constraints(Maker.trees(0xA0, Maker.dns("x")))));
        stands("kinds of lists are not looked at", leaf().with(Maker.extension(20, false, Node.raw(9)),
            Maker.extension(21, false, Node.raw())));
        stands("USAGE, bit 0 alone", leaf().with(Maker.usage(7, 128)));
        stands("USAGE, bit 15 alone", leaf().with(Maker.usage(0, 0, 1)));
    }

    private static Maker emptySubject() {
        Maker maker = leaf();
        maker.subject = Maker.name();
        return maker;
    }

    private static void sizesOfKeys() {
        for (int bits : new int[] {496, 497, 503, 504, 505, 1024, 2047, 2048}) {
            BigInteger n = BigInteger.ONE.shiftLeft(bits - 1).setBit(0);
            Maker maker = leaf();
            maker.publicKey = Node.seq(Maker.alg(1), Node.bits(0, Node.seq(Node.integer(n), Node.integer(3))));
            stands("a key of bits " + bits, maker);
        }
        Maker maker = leaf();
        Node key = Node.seq(Node.integer(LEAF.n), Node.integer(Integer.MAX_VALUE));
        maker.publicKey = Node.seq(Maker.alg(1), Node.bits(0, key));
        stands("the highest exponent", maker);
    }
}
