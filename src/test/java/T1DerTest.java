import java.util.Arrays;
import java.util.function.BiConsumer;

/** Terms 1: ELEMENTS, their lengths and what is in them, each sentence on its edges. TIMES and STRINGS have their own. */
public final class T1DerTest {
    private static final Check CHECK = new Check();
    private static final Reading READING = new Reading(CHECK);

    public static void main(String[] args) {
        lengthBelow128();
        lengthFrom128();
        lengthFrom256();
        noOtherFormOfLength();
        lengthOfTheWhole();
        notBeyondTheOneAround();
        notShortOfWhatIsIn();
        elementsToTheEnd();
        integerAsFewOctetsAsCanBe();
        enumeratedAsInteger();
        booleanOneOctet();
        nullNone();
        oidOfOneOctet();
        oidOfTwoOctets();
        oidOfThreeOctets();
        oidOfAnExtension();
        bitStringFirstOctet();
        bitsBeforeWhatIsIn();
        CHECK.end();
    }

    private static Maker withOctets(Node octets) {
        return Reading.certificate().with(Node.seq(Node.oid("1.2.3"), octets));
    }

    private static Node octets(int[] header, int size) {
        return Node.odd(header, Node.raw(new int[size]));
    }

    private static void lengthBelow128() {
        for (int size : new int[] {0, 1, 126, 127}) {
            READING.stands("length " + size, withOctets(octets(new int[] {4, size}, size)));
            Node one = octets(new int[] {4, 0x81, size}, size);
            READING.at("81 with " + size, one, withOctets(one));
            Node two = octets(new int[] {4, 0x82, 0, size}, size);
            READING.at("82 with " + size, two, withOctets(two));
        }
    }

    private static void lengthFrom128() {
        for (int size : new int[] {128, 129, 254, 255}) {
            READING.stands("length " + size, withOctets(octets(new int[] {4, 0x81, size}, size)));
            Node bare = octets(new int[] {4, size}, size);
            READING.at("one octet, " + size, bare, withOctets(bare));
            Node two = octets(new int[] {4, 0x82, 0, size}, size);
            READING.at("82 with " + size, two, withOctets(two));
        }
    }

    private static void lengthFrom256() {
        for (int size : new int[] {256, 257, 511, 512, 1024, 1700}) {
            READING.stands("length " + size, withOctets(octets(new int[] {4, 0x82, size >> 8, size & 255}, size)));
            Node three = octets(new int[] {4, 0x83, 0, size >> 8, size & 255}, size);
            READING.at("83 with " + size, three, withOctets(three));
        }
    }

    private static void noOtherFormOfLength() {
        for (int form = 0x80; form < 0x100; form++) {
            if (form != 0x81 && form != 0x82) {
                Node one = octets(new int[] {4, form, 0, 0}, 300);
                READING.at("length with " + form, one, withOctets(one));
            }
        }
        Node open = octets(new int[] {4, 0x80, 1, 0, 0}, 0);
        READING.at("a length that is told by an end", open, withOctets(open));
    }

    /** The same of an element that holds others, and of the first of all. */
    private static void lengthOfTheWhole() {
        byte[] text = Reading.list().text();
        CHECK.yes("the list is told in one octet", text.length < 129);
        byte[] body = Arrays.copyOfRange(text, 2, text.length);
        for (int[] header : new int[][] {{0x30, 0x81, body.length}, {0x30, 0x82, 0, body.length},
            {0x30, 0x83, 0, 0, body.length}, {0x30, 0x80}, {0x31, body.length}, {0x10, body.length}}) {
            READING.read("the whole with another head", joined(header, body), true, 0);
        }
        READING.read("the whole", joined(new int[] {0x30, body.length}, body), true, -1);
        READING.read("a whole that is one longer", joined(new int[] {0x30, body.length + 1}, body), true, 0);
        READING.read("a tag alone", new byte[] {0x30}, true, 0);
        READING.read("no octets", new byte[0], true, 0);
        READING.read("an empty whole", new byte[] {0x30, 0}, true, 2);
    }

    private static byte[] joined(int[] head, byte[] tail) {
        byte[] result = new byte[head.length + tail.length];
        for (int i = 0; i < head.length; i++) {
            result[i] = (byte) head[i];
        }
        System.arraycopy(tail, 0, result, head.length, tail.length);
        return result;
    }

    /** The last element in each kind of element, its length told too high. */
    private static void notBeyondTheOneAround() {
        for (int by : new int[] {1, 2, 100}) {
            beyond(by, "A0", Node.integer(2), (m, last) -> m.version = Node.of(0xA0, last));
            beyond(by, "SEQ", Node.utc("200101000000Z"), (m, last) -> m.times = Node.seq(m.first, last));
            beyond(by, "SET", Node.seq(Node.oid("2.5.4.3"), Node.text(0x13, "a")),
                (m, last) -> m.subject = Node.seq(Node.set(last)));
            beyond(by, "A3", Node.seq(Maker.ca()), (m, last) -> m.more.add(Node.of(0xA3, last)));
            beyond(by, "A4", Maker.name("a"), (m, last) -> m.with(Maker.names(Node.of(0xA4, last))));
            beyond(by, "A1", Node.seq(Maker.dns("a")),
                (m, last) -> m.with(Maker.constraints(Node.of(0xA1, last))));
            beyond(by, "OCTETS", Node.octets(4, 1), (m, last) -> m.with(Maker.extension(14, false, last)));
            beyond(by, "BIT STRING", Key.small(1).node(),
                (m, last) -> m.publicKey = Node.seq(Maker.alg(1), Node.bits(0, last)));
            beyond(by, "the whole", Node.bits(0), (m, last) -> m.signature = last);
        }
    }

    private static void beyond(int by, String around, Node last, BiConsumer<Maker, Node> put) {
        Maker maker = Reading.certificate();
        put.accept(maker, last);
        READING.stands("the last one in " + around, maker);
        last.stretched(by);
        READING.at("the last one in " + around + " goes beyond it by " + by, last, maker);
    }

    /** An octet too few in the length leaves one behind the element, which can not stand there. */
    private static void notShortOfWhatIsIn() {
        Maker one = Reading.certificate();
        one.version = Node.of(0xA0, Node.octets(0x02, 2, 5).stretched(-1));
        byte[] oneText = one.text();
        READING.read("an octet behind the INTEGER", oneText, false, one.version.end - 1);
        Maker two = Reading.certificate().with(Maker.extension(14, false, Node.octets(4, 1, 2).stretched(-1)));
        byte[] twoText = two.text();
        READING.read("an octet behind the OCTETS", twoText, false, two.extensions.get(0).end - 1);
    }

    private static void elementsToTheEnd() {
        for (Node body : new Node[] {Node.seq(), Node.seq(Node.of(0xA0, Node.integer(2)))}) {
            byte[] text = Node.seq(body, Maker.alg(11), Node.bits(0)).write();
            READING.read("TBS that ends too early", text, false, body.end);
        }
        Node extra = Node.raw(0);
        Maker more = Reading.certificate();
        more.version.kids.add(extra);
        READING.at("one octet behind the last in A0", extra, more);
    }

    private static void integerAsFewOctetsAsCanBe() {
        for (int[] octets : new int[][] {{1}, {127}, {0, 128}, {0, 255}, {1, 0}, {127, 255}, {0, 128, 0}, {1, 0, 0}}) {
            Maker stands = Reading.certificate();
            stands.serial = Node.octets(2, octets);
            READING.stands("INTEGER " + Arrays.toString(octets), stands);
        }
        for (int[] octets : new int[][] {{}, {0, 1}, {0, 127}, {0, 0, 128}, {0, 127, 255}, {255, 128}, {255, 255, 127}}) {
            Maker bad = Reading.certificate();
            bad.serial = Node.octets(2, octets);
            READING.at("INTEGER " + Arrays.toString(octets), bad.serial, bad);
        }
    }

    private static void enumeratedAsInteger() {
        for (int[] octets : new int[][] {{}, {0}, {1}, {0, 1}, {0, 10}, {0, 0}, {255}, {255, 255}}) {
            Node reason = Node.octets(0x0A, octets);
            Maker list = Reading.list();
            list.entries.add(Maker.entry(1, Maker.extension(21, false, reason)));
            boolean stands = octets.length == 1 && octets[0] < 2;
            READING.either("ENUMERATED " + Arrays.toString(octets), stands, reason, list);
        }
    }

    private static void booleanOneOctet() {
        for (int octet = 0; octet < 256; octet++) {
            Node critical = Node.bool(octet);
            READING.either("critical " + octet, octet == 255, critical, Reading.certificate().with(
                Node.seq(Node.oid("1.2.3"), critical, Node.octetString())));
            Node ca = Node.bool(octet);
            READING.either("CA " + octet, octet == 255, ca,
                Reading.certificate().with(Maker.extension(19, false, Node.seq(ca))));
        }
        for (int[] octets : new int[][] {{}, {255, 255}, {255, 0}, {0, 255}}) {
            Node ca = Node.octets(1, octets);
            READING.at("BOOLEAN " + Arrays.toString(octets), ca,
                Reading.certificate().with(Maker.extension(19, false, Node.seq(ca))));
        }
    }

    private static void nullNone() {
        for (int[] octets : new int[][] {{}, {0}, {5, 0}}) {
            Node one = Node.octets(5, octets);
            Maker inner = Reading.certificate();
            inner.innerAlg = Node.seq(Node.oid("1.2.840.113549.1.1.11"), one);
            READING.either("NULL of " + octets.length, octets.length == 0, one, inner);
            Maker key = Reading.certificate();
            key.publicKey = Node.seq(Node.seq(Node.oid("1.2.840.113549.1.1.1"), one), key.publicKey.kids.get(1));
            READING.either("NULL of a key, of " + octets.length, octets.length == 0, one, key);
        }
    }

    /** Read number by number, as the words have it. */
    private static boolean isOid(int... octets) {
        int at = 0;
        while (at < octets.length) {
            if (octets[at] == 0x80) {
                return false;
            }
            while (at < octets.length && octets[at] >= 128) {
                at++;
            }
            if (at == octets.length) {
                return false;
            }
            at++;
        }
        return octets.length > 0;
    }

    private static void oid(int... octets) {
        Node one = Node.octets(6, octets);
        Node name = Node.seq(Node.set(Node.seq(one, Node.text(0x13, "a"))));
        READING.either("OID " + Arrays.toString(octets), isOid(octets), one, Reading.withSubject(name));
    }

    private static void oidOfOneOctet() {
        oid();
        for (int a = 0; a < 256; a++) {
            oid(a);
        }
    }

    private static void oidOfTwoOctets() {
        for (int a : new int[] {0, 1, 0x7F, 0x80, 0x81, 0xFE, 0xFF}) {
            for (int b = 0; b < 256; b++) {
                oid(a, b);
                oid(b, a);
            }
        }
    }

    private static void oidOfThreeOctets() {
        int[] some = {0, 1, 0x7F, 0x80, 0x81, 0xFF};
        for (int n = 0; n < 216; n++) {
            oid(some[n / 36], some[n / 6 % 6], some[n % 6]);
            oid(0x2A, some[n / 36], some[n / 6 % 6], some[n % 6], 5);
        }
    }

    private static void oidOfAnExtension() {
        for (int[] octets : new int[][] {{}, {0x80}, {0x80, 1}, {0x7F}, {0x80, 0x80, 1}, {0x81, 0x80, 1}, {0x55, 0x80, 0x13},
            {0x55, 0x9D}, {0x55, 0x9D, 0x13}, {0x55, 0x1D, 0x80}, {0x55, 0x1D, 0x80, 0x13}}) {
            Node one = Node.octets(6, octets);
            READING.either("OID of an EXTENSION " + Arrays.toString(octets), isOid(octets), one,
                Reading.certificate().with(Node.seq(one, Node.octetString())));
        }
    }

    private static void bitStringFirstOctet() {
        for (int unused = 0; unused < 256; unused++) {
            Maker one = Reading.certificate();
            one.signature = Node.octets(3, unused, 0);
            READING.either("bits not used: " + unused, unused == 0, one.signature, one);
            Maker empty = Reading.list();
            empty.signature = Node.octets(3, unused);
            READING.either("bits not used of none: " + unused, unused == 0, empty.signature, empty);
        }
        Maker none = Reading.certificate();
        none.signature = Node.octets(3);
        READING.at("a BIT STRING of no octets", none.signature, none);
    }

    private static void bitsBeforeWhatIsIn() {
        for (int unused = 0; unused < 256; unused++) {
            Node bad = Node.nul();
            Node bits = Node.bits(unused, bad);
            Maker key = Reading.certificate();
            key.publicKey = Node.seq(Maker.alg(1), bits);
            READING.at("bits not used before a KEY that is WRONG: " + unused, unused == 0 ? bad : bits, key);
            Maker good = Reading.certificate();
            Node around = Node.bits(unused, Key.small(1).node());
            good.publicKey = Node.seq(Maker.alg(1), around);
            READING.either("bits not used before a KEY: " + unused, unused == 0, around, good);
        }
    }
}
