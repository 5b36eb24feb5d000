import java.math.BigInteger;
import java.time.LocalDateTime;
import java.time.ZoneOffset;

/** Promise 7: the parts of a CERTIFICATE. */
public final class P07PartTest {
    private static final Key ROOT = Key.small(1);
    private static final Key LEAF = new Key(513, 3, 5);
    private static final Check CHECK = new Check();

    public static void main(String[] args) {
        bare();
        full();
        times();
        usages();
        serials();
        bitsOfKeys();
        matters();
        refusals();
        CHECK.end();
    }

    private static Maker leaf() {
        return new Maker("leaf", LEAF, "root", ROOT);
    }

    private static void parts(Maker maker, long... due) {
        Store store = new Store();
        store.certificate(maker);
        for (int what = 2; what < due.length + 2; what++) {
            CHECK.same("part(0, " + what + ")", store.x.part(0, what), due[what - 2]);
        }
    }

    private static long part(Maker maker, int what) {
        Store store = new Store();
        store.certificate(maker);
        return store.x.part(0, what);
    }

    private static void bare() {
        Maker maker = leaf();
        maker.subject = Maker.name();
        parts(maker, 513, 3, 0, -1, -1, 0, 0, 0, 0, 1);
    }

    private static void full() {
        Maker maker = leaf().with(Maker.ca(255), Maker.usage(1, 6),
            Maker.names(Maker.dns("a"), Node.text(0x81, "m"), Maker.dns("b"), Maker.directory(Maker.name("d", "e", "f")),
                Maker.dns("a")),
            Maker.extension("1.2.3", true, Node.raw()), Maker.extension("1.2.4", false, Node.raw()));
        maker.subject = Maker.name("x", "y");
        maker.serial = Node.integer(32768);
        parts(maker, 513, 3, 1, 255, 96, 3, 2, 5, 1, 3);
        parts(leaf().with(Maker.ca(0)), 513, 3, 1, 0);
        parts(leaf().with(Maker.ca()), 513, 3, 1, -1);
        parts(leaf().with(Maker.extension(19, true, Node.seq())), 513, 3, 0, -1);
        parts(leaf().with(Maker.ca(128)), 513, 3, 1, 128);
    }

    private static void times() {
        String[] texts = {"500101000000Z", "491231235959Z", "000101000000Z", "991231235959Z", "700101000000Z",
            "691231235959Z", "000229123456Z", "240229000000Z", "520228235959Z", "200301000001Z", "191130100203Z"};
        for (String text : texts) {
            int year = Integer.parseInt(text.substring(0, 2));
            time(Node.utc(text), (year >= 50 ? 1900 : 2000) + year, text.substring(2));
        }
        for (int month = 1; month <= 12; month++) {
            String first = (month < 10 ? "0" : "") + month + "01000000Z";
            time(Node.utc("21" + first), 2021, first);
            time(Node.utc("20" + first), 2020, first);
            int days = LocalDateTime.of(2021, month, 1, 0, 0).toLocalDate().lengthOfMonth();
            String last = (month < 10 ? "0" : "") + month + days + "235959Z";
            time(Node.utc("21" + last), 2021, last);
        }
        String[] longTexts = {"20500101000000Z", "99991231235959Z", "24000229000000Z", "21000301000000Z", "20520229010101Z",
            "30010228000000Z", "24010101000000Z", "28010101000000Z"};
        for (String text : longTexts) {
            time(Node.general(text), Integer.parseInt(text.substring(0, 4)), text.substring(4));
        }
    }

    private static void time(Node node, int year, String rest) {
        long due = LocalDateTime.of(year, two(rest, 0), two(rest, 2), two(rest, 4), two(rest, 6), two(rest, 8))
            .toEpochSecond(ZoneOffset.UTC);
        Maker first = leaf();
        first.times = Node.seq(node, Node.utc("200101000000Z"));
        CHECK.same("part(0, 0) of " + year + rest, part(first, 0), due);
        Maker last = leaf();
        last.times = Node.seq(Node.utc("200101000000Z"), node);
        CHECK.same("part(0, 1) of " + year + rest, part(last, 1), due);
    }

    private static int two(String text, int at) {
        return Integer.parseInt(text.substring(at, at + 2));
    }

    private static void usages() {
        CHECK.same("bit 0", part(leaf().with(Maker.usage(7, 128)), 6), 1);
        CHECK.same("bits 0 and 1", part(leaf().with(Maker.usage(6, 192)), 6), 3);
        CHECK.same("bit 7", part(leaf().with(Maker.usage(0, 1)), 6), 128);
        CHECK.same("bit 8", part(leaf().with(Maker.usage(7, 0, 128)), 6), 256);
        CHECK.same("bit 15", part(leaf().with(Maker.usage(0, 0, 1)), 6), 32768);
        CHECK.same("bits 0 to 15", part(leaf().with(Maker.usage(0, 255, 255)), 6), 65535);
        CHECK.same("bits 5 and 6", part(leaf().with(Maker.usage(1, 6)), 6), 96);
    }

    private static void serials() {
        for (int octets = 1; octets <= 20; octets++) {
            Maker maker = leaf();
            maker.serial = Node.integer(BigInteger.ONE.shiftLeft(8 * octets - 2));
            CHECK.same("octets of the SERIAL", part(maker, 11), octets);
        }
        CHECK.same("octets of 128", part(leaf().serial(128), 11), 2);
        CHECK.same("octets of 127", part(leaf().serial(127), 11), 1);
    }

    private static void bitsOfKeys() {
        for (int bits : new int[] {496, 499, 503, 504, 505, 511, 512, 513, 2041, 2047, 2048}) {
            Maker maker = leaf();
            Node n = Node.integer(BigInteger.ONE.shiftLeft(bits - 1).setBit(0));
            maker.publicKey = Node.seq(Maker.alg(1), Node.bits(0, Node.seq(n, Node.integer(Integer.MAX_VALUE))));
            CHECK.same("bits of n", part(maker, 2), bits);
            CHECK.same("e", part(maker, 3), Integer.MAX_VALUE);
        }
    }

    private static void matters() {
        CHECK.same("three critical ones that are not known", part(leaf().with(
            Maker.extension("1.2.3", true, Node.raw()), Maker.extension(20, true, Node.raw()),
            Maker.extension(21, true, Node.raw()), Maker.extension(32, false, Node.raw()), Maker.ca()), 10), 3);
        CHECK.same("an OID with the same end", part(leaf().with(
            Maker.extension("2.5.29.19.1", true, Node.raw()), Maker.extension("2.5.28.19", true, Node.raw())), 10), 2);
        CHECK.same("known ones, critical", part(leaf().with(Maker.ca(), Maker.usage(7, 128),
            Maker.extension(14, true, Node.octets(4, 1)), Maker.extension(35, true, Node.seq(Node.octets(0x80, 1))),
            Maker.extension(17, true, Node.seq(Maker.dns("a"))), Maker.constraints(Maker.trees(0xA0, Maker.dns("a")))), 10),
            0);
    }

    private static void refusals() {
        Store store = new Store();
        store.certificate(leaf());
        TrustChain x = store.x;
        CHECK.illegal("part(0, -1)", () -> x.part(0, -1));
        CHECK.illegal("part(0, 12)", () -> x.part(0, 12));
        CHECK.illegal("part(1, 12), both wrong", () -> x.part(1, 12));
        CHECK.outOfBounds("part(1, 11)", () -> x.part(1, 11));
        CHECK.outOfBounds("part(-1, 0)", () -> x.part(-1, 0));
    }
}
