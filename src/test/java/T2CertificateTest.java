import java.math.BigInteger;
import java.util.Arrays;

/** Terms 2: what a CERTIFICATE is made of, each sentence on its edges. EXTENSIONS have a test of their own. */
public final class T2CertificateTest {
    private static final BigInteger ONE = BigInteger.ONE;
    private static final Key KEY = Key.small(1);
    private static final Check CHECK = new Check();
    private static final Reading READING = new Reading(CHECK);

    public static void main(String[] args) {
        version();
        serialAboveZero();
        serialUpToTwentyOctets();
        algorithm();
        issuerNotEmpty();
        subjectMayBeEmpty();
        nameIsSetsOfOne();
        partsAreSets();
        twoTimes();
        keyOf496Bits();
        keyOf2048Bits();
        keyOdd();
        exponent();
        nothingBehindTheKey();
        perhapsExtensions();
        order();
        CHECK.end();
    }

    private static void version() {
        for (int number = -128; number < 128; number++) {
            Maker maker = Reading.certificate();
            Node inside = Node.integer(number);
            maker.version = Node.of(0xA0, inside);
            READING.either("version " + number, number == 2, inside, maker);
        }
        for (long number : new long[] {258, 514, (1L << 32) + 2, Long.MIN_VALUE + 2}) {
            Maker maker = Reading.certificate();
            Node inside = Node.integer(number);
            maker.version = Node.of(0xA0, inside);
            READING.at("version " + number, inside, maker);
        }
        for (int shift : new int[] {64, 72, 128}) {
            Maker maker = Reading.certificate();
            Node inside = Node.integer(ONE.shiftLeft(shift).add(BigInteger.TWO));
            maker.version = Node.of(0xA0, inside);
            READING.at("version of many octets", inside, maker);
        }
    }

    private static Maker withSerial(Node serial) {
        Maker maker = Reading.certificate();
        maker.serial = serial;
        return maker;
    }

    private static void serialAboveZero() {
        for (int number : new int[] {Integer.MIN_VALUE, -256, -255, -129, -128, -2, -1, 0, 1, 2, 127, 128, 255, 256}) {
            Node serial = Node.integer(number);
            READING.either("SERIAL " + number, number > 0, serial, withSerial(serial));
        }
        for (int shift : new int[] {63, 64, 100, 152, 159}) {
            Node serial = Node.integer(ONE.shiftLeft(shift).negate());
            READING.at("SERIAL far below 0", serial, withSerial(serial));
        }
    }

    private static void serialUpToTwentyOctets() {
        for (int octets = 1; octets <= 24; octets++) {
            Node least = Node.integer(ONE.shiftLeft(Math.max(0, 8 * octets - 9)));
            Node most = Node.integer(ONE.shiftLeft(8 * octets - 1).subtract(ONE));
            READING.either("the least SERIAL of octets " + octets, octets <= 20, least, withSerial(least));
            READING.either("the greatest SERIAL of octets " + octets, octets <= 20, most, withSerial(most));
        }
    }

    private static void algorithm() {
        byte[] due = Node.oid("1.2.840.113549.1.1.11").write();
        int[] octets = Maker.unsigned(Arrays.copyOfRange(due, 2, due.length));
        for (int at = 0; at < octets.length; at++) {
            for (int change : new int[] {1, 2, 0x40}) {
                int[] other = octets.clone();
                other[at] ^= change;
                oneAlgorithm("another octet " + at, other);
            }
        }
        oneAlgorithm("one octet less", Arrays.copyOf(octets, octets.length - 1));
        oneAlgorithm("one octet more", Arrays.copyOf(octets, octets.length + 1));
        oneAlgorithm("no octets", new int[0]);
        Node key = Node.oid("1.2.840.113549.1.1.11");
        Maker maker = Reading.certificate();
        maker.publicKey = Node.seq(Node.seq(key, Node.nul()), Node.bits(0, KEY.node()));
        READING.at("that of a signature for the key", key, maker);
    }

    private static void oneAlgorithm(String what, int[] octets) {
        Node inner = Node.octets(6, octets);
        Maker one = Reading.certificate();
        one.innerAlg = Node.seq(inner, Node.nul());
        READING.at("the first ALG: " + what, inner, one);
        Node outer = Node.octets(6, octets);
        Maker two = Reading.certificate();
        two.outerAlg = Node.seq(outer, Node.nul());
        READING.at("the last ALG: " + what, outer, two);
    }

    private static void issuerNotEmpty() {
        for (int parts = 0; parts < 4; parts++) {
            Node name = Node.seq();
            for (int n = 0; n < parts; n++) {
                name.kids.add(Maker.part("2.5.4.3", Node.text(0x13, "a")));
            }
            Maker maker = Reading.certificate();
            maker.issuer = name;
            READING.either("an ISSUER of PARTS " + parts, parts > 0, name, maker);
        }
    }

    private static void subjectMayBeEmpty() {
        for (int parts = 0; parts < 4; parts++) {
            String[] texts = new String[parts];
            Arrays.fill(texts, "a");
            Maker maker = Reading.withSubject(Maker.name(texts));
            READING.stands("a SUBJECT of PARTS " + parts, maker);
            Store store = new Store();
            store.certificate(maker);
            CHECK.same("part(0, 8)", store.x.part(0, 8), parts);
        }
    }

    private static void nameIsSetsOfOne() {
        for (int inSet = 0; inSet < 3; inSet++) {
            Node set = Node.set();
            for (int n = 0; n < inSet; n++) {
                set.kids.add(Node.seq(Node.oid("2.5.4.3"), Node.text(0x13, "a")));
            }
            Maker maker = Reading.withSubject(Node.seq(Maker.part("2.5.4.3", Node.text(0x13, "z")), set));
            if (inSet == 1) {
                READING.stands("one in a SET", maker);
            } else if (inSet == 0) {
                READING.behind("none in a SET", set, maker);
            } else {
                READING.at("two in a SET", set.kids.get(1), maker);
            }
        }
    }

    /** As many as a text of 2,048 octets has room for. */
    private static void partsAreSets() {
        Node name = Node.seq();
        int parts = 0;
        while (Reading.withSubject(name).text().length < 2040) {
            name.kids.add(Node.set(Node.seq(Node.octets(6, 1), Node.text(0x13, "a"))));
            parts++;
        }
        name.kids.remove(--parts);
        Store store = new Store();
        store.certificate(Reading.withSubject(name));
        CHECK.same("part(0, 8) of very many", store.x.part(0, 8), parts);
        CHECK.yes("very many", parts > 150);
    }

    private static void twoTimes() {
        for (int times = 0; times < 4; times++) {
            Node seq = Node.seq();
            for (int n = 0; n < times; n++) {
                seq.kids.add(Node.utc("210101000000Z"));
            }
            Maker maker = Reading.certificate();
            maker.times = seq;
            if (times < 2) {
                READING.behind("TIMES: " + times, seq, maker);
            } else {
                READING.either("TIMES: " + times, times == 2, seq.kids.get(times - 1), maker);
            }
        }
    }

    private static void key(String what, boolean stands, BigInteger n) {
        Node number = Node.integer(n);
        Maker maker = Reading.certificate();
        maker.publicKey = Reading.publicKey(number, Node.integer(3));
        READING.either(what, stands, number, maker);
        if (stands) {
            Store store = new Store();
            store.certificate(maker);
            CHECK.same("part(0, 2) of " + what, store.x.part(0, 2), n.bitLength());
        }
    }

    private static void keyOf496Bits() {
        for (int bits = 480; bits <= 513; bits++) {
            key("the least n of bits " + bits, bits >= 496, ONE.shiftLeft(bits - 1).setBit(0));
            key("the greatest n of bits " + bits, bits >= 496, ONE.shiftLeft(bits).subtract(ONE));
        }
        for (int n : new int[] {0, 1, 3, 127, 255}) {
            key("n = " + n, false, BigInteger.valueOf(n));
        }
    }

    private static void keyOf2048Bits() {
        for (int bits = 2030; bits <= 2060; bits++) {
            key("the least n of bits " + bits, bits <= 2048, ONE.shiftLeft(bits - 1).setBit(0));
            key("the greatest n of bits " + bits, bits <= 2048, ONE.shiftLeft(bits).subtract(ONE));
        }
    }

    private static void keyOdd() {
        for (int bits : new int[] {496, 497, 512, 1024, 2047, 2048}) {
            BigInteger least = ONE.shiftLeft(bits - 1);
            key("even, bits " + bits, false, least);
            key("odd, bits " + bits, true, least.add(ONE));
            key("even again, bits " + bits, false, least.add(BigInteger.TWO));
            key("below 0 and odd, bits " + bits, false, least.add(ONE).negate());
            key("below 0, a power of 2 and 1, bits " + bits, false, ONE.subtract(least));
        }
    }

    private static void exponent() {
        for (long e = -5; e < 20; e++) {
            exponent(e, e >= 3 && e % 2 != 0);
        }
        for (long e : new long[] {255, 257, 65535, 65537, (1L << 31) - 3, (1L << 31) - 1}) {
            exponent(e, true);
        }
        for (long e : new long[] {256, 65536, (1L << 31) - 2, 1L << 31, (1L << 31) + 1, (1L << 32) - 1, (1L << 32) + 3,
            Long.MAX_VALUE, Long.MIN_VALUE + 1, -65537}) {
            exponent(e, false);
        }
        for (int shift : new int[] {64, 65, 128}) {
            exponent(ONE.shiftLeft(shift).add(BigInteger.valueOf(3)), false);
            exponent(ONE.shiftLeft(shift).negate().add(BigInteger.valueOf(3)), false);
        }
    }

    private static void exponent(long e, boolean stands) {
        exponent(BigInteger.valueOf(e), stands);
    }

    private static void exponent(BigInteger e, boolean stands) {
        Node number = Node.integer(e);
        Maker maker = Reading.certificate();
        maker.publicKey = Reading.publicKey(Node.integer(KEY.n), number);
        READING.either("e = " + e, stands, number, maker);
        if (stands) {
            Store store = new Store();
            store.certificate(maker);
            CHECK.same("part(0, 3) of " + e, store.x.part(0, 3), e.longValueExact());
        }
    }

    private static void nothingBehindTheKey() {
        for (Node extra : new Node[] {Node.raw(0), Node.nul(), Node.integer(1), Node.seq()}) {
            Maker inside = Reading.certificate();
            inside.publicKey = Reading.publicKey(Node.integer(KEY.n), Node.integer(3), extra);
            READING.at("behind e", extra, inside);
            Maker behind = Reading.certificate();
            behind.publicKey = Node.seq(Maker.alg(1), Node.bits(0, KEY.node(), extra));
            READING.at("behind the KEY", extra, behind);
            Maker further = Reading.certificate();
            further.publicKey = Node.seq(Maker.alg(1), Node.bits(0, KEY.node()), extra);
            READING.at("behind the BIT STRING", extra, further);
        }
    }

    private static void perhapsExtensions() {
        READING.stands("no A3", Reading.certificate());
        READING.stands("A3 with one", Reading.certificate().with(Maker.ca()));
        for (int tag = 0; tag < 256; tag++) {
            if (tag != 0xA3) {
                Node other = Node.of(tag, Node.seq(Maker.ca()));
                Maker maker = Reading.certificate();
                maker.more.add(other);
                READING.at("for A3 the tag " + tag, other, maker);
            }
        }
        Node again = Node.of(0xA3, Node.seq(Maker.ca()));
        Maker twice = Reading.certificate().with(Maker.ca());
        twice.more.add(again);
        READING.at("A3 twice", again, twice);
        Node second = Node.seq(Maker.ca());
        Maker two = Reading.certificate();
        two.more.add(Node.of(0xA3, Node.seq(Maker.ca()), second));
        READING.at("two SEQS in A3", second, two);
    }

    /** Each of TBS has its one tag: with any other it can not stand. */
    private static void order() {
        int[] tags = {0xA0, 0x02, 0x30, 0x30, 0x30, 0x30, 0x30};
        for (int which = 0; which < tags.length; which++) {
            for (int tag = 0; tag < 256; tag++) {
                Maker maker = Reading.certificate();
                byte[] text = maker.text();
                int place = maker.body.kids.get(which).place;
                text[place] = (byte) tag;
                READING.read("tag " + tag + " of the one " + which, text, false, tag == tags[which] ? -1 : place);
            }
        }
    }
}
