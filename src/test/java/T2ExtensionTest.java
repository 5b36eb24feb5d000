import java.math.BigInteger;
import java.util.Arrays;

/** Terms 2: EXTENSIONS of a CERTIFICATE, each sentence on its edges. */
public final class T2ExtensionTest {
    private static final Check CHECK = new Check();
    private static final Reading READING = new Reading(CHECK);

    public static void main(String[] args) {
        oneAtLeast();
        eachOidOnce();
        perhapsCritical();
        justOneElement();
        basicLength();
        lengthJustWithCa();
        usageOctets();
        usageLastBit();
        namesOneOrMore();
        dnsOctets();
        addresses();
        directoryNames();
        oneOfBothAtLeast();
        treesOneOrMore();
        treeOctets();
        ownKey();
        issuersKey();
        othersAreNotLookedAt();
        CHECK.end();
    }

    private static Maker with(Node... extensions) {
        return Reading.certificate().with(extensions);
    }

    private static Maker inside(int kind, Node element) {
        return with(Maker.extension(kind, false, element));
    }

    private static long part(Maker maker, int what) {
        Store store = new Store();
        store.certificate(maker);
        return store.x.part(0, what);
    }

    private static Node strange(int number) {
        return Maker.extension("1.2." + number, false, Node.raw());
    }

    /** None, one, two, and as many as a text has room for. */
    private static void oneAtLeast() {
        Node none = Node.seq();
        Maker empty = Reading.certificate();
        empty.more.add(Node.of(0xA3, none));
        READING.behind("no EXTENSIONS", none, empty);
        CHECK.same("part(0, 9) without A3", part(Reading.certificate(), 9), 0);
        Maker maker = Reading.certificate();
        for (int n = 1; n <= 100; n++) {
            maker.with(strange(n));
            if (n < 4 || n > 98) {
                READING.stands("EXTENSIONS: " + n, maker);
                CHECK.same("part(0, 9)", part(maker, 9), n);
                CHECK.same("part(0, 10)", part(maker, 10), 0);
            }
        }
    }

    private static void eachOidOnce() {
        for (int first = 0; first < 3; first++) {
            for (int second = first + 1; second < 4; second++) {
                Node[] four = {strange(1), strange(2), strange(3), strange(4)};
                four[second] = strange(first + 1);
                READING.at("the OID of " + first + " again at " + second, four[second], with(four));
            }
        }
        Node critical = Maker.extension("1.2.3", true, Node.raw(1, 2));
        READING.at("once critical, once not", critical, with(strange(3), critical));
        Node third = strange(1);
        READING.at("the first of two that repeat", third, with(strange(1), third, strange(1)));
        READING.stands("OIDS that begin alike", with(Maker.extension("1.2.3", false, Node.raw()),
            Maker.extension("1.2.3.0", false, Node.raw()), Maker.extension("1.2", false, Node.raw()),
            Maker.extension("1.2.4", false, Node.raw()), Maker.extension("1.2.131", false, Node.raw())));
        for (int kind : new int[] {14, 15, 17, 19, 30, 35}) {
            Node again = known(kind);
            READING.at("2.5.29." + kind + " twice", again, with(known(kind), strange(1), again));
        }
    }

    private static Node known(int kind) {
        switch (kind) {
            case 14:
                return Maker.ownKey(1);
            case 15:
                return Maker.usage(7, 128);
            case 17:
                return Maker.names(Maker.dns("a"));
            case 19:
                return Maker.ca();
            case 30:
                return Maker.constraints(Maker.trees(0xA1, Maker.dns("a")));
            default:
                return Maker.issuerKey(1);
        }
    }

    private static void perhapsCritical() {
        CHECK.same("not critical", part(with(Maker.extension("1.2.3", false, Node.raw())), 10), 0);
        CHECK.same("critical", part(with(Maker.extension("1.2.3", true, Node.raw())), 10), 1);
        Node no = Node.bool(0);
        READING.at("critical 0", no, with(Node.seq(Node.oid("1.2.3"), no, Node.octetString())));
        Node twice = Node.bool(255);
        READING.at("critical twice", twice,
            with(Node.seq(Node.oid("1.2.3"), Node.bool(255), twice, Node.octetString())));
        Node late = Node.bool(255);
        READING.at("critical behind the OCTETS", late, with(Node.seq(Node.oid("1.2.3"), Node.octetString(), late)));
        Node early = Node.bool(255);
        READING.at("critical before the OID", early, with(Node.seq(early, Node.oid("1.2.3"), Node.octetString())));
    }

    private static void justOneElement() {
        for (int kind : new int[] {14, 15, 17, 19, 30, 35}) {
            Node one = known(kind);
            Node octets = one.kids.get(one.kids.size() - 1);
            READING.stands("one in the OCTETS of " + kind, with(one));
            for (Node more : new Node[] {Node.nul(), Node.raw(0), Node.seq()}) {
                octets.kids.add(more);
                READING.at("more in the OCTETS of " + kind, more, with(one));
                octets.kids.remove(more);
            }
            octets.kids.clear();
            READING.behind("none in the OCTETS of " + kind, octets, with(one));
        }
    }

    private static void basicLength() {
        for (long length : new long[] {Long.MIN_VALUE, -65536, -256, -255, -129, -128, -127, -2, -1, 0, 1, 2, 126, 127, 128, 129,
            254, 255, 256, 257, 511, 512, 65535, 65536, 1L << 32, (1L << 32) + 1, Long.MAX_VALUE}) {
            Node number = Node.integer(length);
            Maker maker = inside(19, Node.seq(Node.bool(255), number));
            boolean stands = length >= 0 && length <= 255;
            READING.either("LENGTH " + length, stands, number, maker);
            if (stands) {
                CHECK.same("part(0, 5)", part(maker, 5), length);
                CHECK.same("part(0, 4)", part(maker, 4), 1);
            }
        }
        Node wide = Node.integer(BigInteger.ONE.shiftLeft(64));
        READING.at("LENGTH of nine octets", wide, inside(19, Node.seq(Node.bool(255), wide)));
        CHECK.same("no LENGTH", part(inside(19, Node.seq(Node.bool(255))), 5), -1);
        CHECK.same("no BASIC", part(Reading.certificate(), 5), -1);
    }

    private static void lengthJustWithCa() {
        for (int length : new int[] {0, 1, 255}) {
            Node alone = Node.integer(length);
            READING.at("LENGTH without CA", alone, inside(19, Node.seq(alone)));
            Node early = Node.integer(length);
            READING.at("LENGTH before CA", early, inside(19, Node.seq(early, Node.bool(255))));
        }
        CHECK.same("neither: no CA", part(inside(19, Node.seq()), 4), 0);
        CHECK.same("neither: no LENGTH", part(inside(19, Node.seq()), 5), -1);
        Node third = Node.integer(1);
        READING.at("LENGTH twice", third, inside(19, Node.seq(Node.bool(255), Node.integer(1), third)));
    }

    /** One or two octets behind the first, which is 0 to 7. */
    private static void usageOctets() {
        for (int[] octets : new int[][] {{}, {0}, {7}, {0, 1}, {0, 0, 1}, {0, 0, 0, 1}, {0, 1, 1, 1}, {0, 255, 255, 255, 255}}) {
            Node bits = Node.octets(3, octets);
            boolean stands = octets.length == 2 || octets.length == 3;
            READING.either("USAGE of octets " + (octets.length - 1), stands, bits, inside(15, bits));
        }
        for (int unused = 0; unused < 256; unused++) {
            int last = unused < 8 ? 1 << unused : 128;
            Node one = Node.octets(3, unused, last);
            READING.either("USAGE, not used: " + unused, unused < 8, one, inside(15, one));
            Node two = Node.octets(3, unused, 0, last);
            READING.either("USAGE of two octets, not used: " + unused, unused < 8, two, inside(15, two));
        }
    }

    /** The last bit that is used is 1, those behind it are 0: so the lowest 1 of the last octet tells how many are not. */
    private static void usageLastBit() {
        for (int unused = 0; unused < 8; unused++) {
            for (int octet = 0; octet < 256; octet++) {
                boolean stands = octet != 0 && Integer.numberOfTrailingZeros(octet) == unused;
                Node one = Node.octets(3, unused, octet);
                Maker maker = inside(15, one);
                READING.either("USAGE " + unused + " " + octet, stands, one, maker);
                if (stands) {
                    CHECK.same("part(0, 6)", part(maker, 6), Integer.reverse(octet) >>> 24);
                }
                Node two = Node.octets(3, unused, 0x41, octet);
                Maker longer = inside(15, two);
                READING.either("USAGE of two octets " + unused + " " + octet, stands, two, longer);
                if (stands) {
                    CHECK.same("part(0, 6)", part(longer, 6), Integer.reverse(0x4100 | octet) >>> 16);
                }
            }
        }
        CHECK.same("no USAGE", part(Reading.certificate(), 6), -1);
    }

    private static void namesOneOrMore() {
        Node none = Node.seq();
        READING.behind("no NAMES", none, inside(17, none));
        Node names = Node.seq();
        for (int n = 1; n <= 500; n++) {
            names.kids.add(Maker.dns("a"));
            if (n < 4 || n > 498) {
                READING.stands("NAMES: " + n, inside(17, names));
                CHECK.same("part(0, 7)", part(inside(17, names), 7), n);
            }
        }
        for (int tag = 0; tag < 256; tag++) {
            if (tag != 0x81 && tag != 0x82 && tag != 0xA4) {
                Node other = Node.octets(tag, 'a');
                READING.at("a name of tag " + tag, other, namesOf(other));
            }
        }
        Maker kinds = namesOf(Node.text(0x81, "a"), Node.octets(0x87, 1, 2, 3, 4), Maker.directory(Maker.name("a")));
        READING.stands("names that are no DNS names", kinds);
        CHECK.same("part(0, 7) of those", part(kinds, 7), 0);
    }

    private static Maker namesOf(Node... names) {
        return inside(17, Node.seq(names));
    }

    /** 33 to 126, one at least; of 81 likewise. */
    private static void dnsOctets() {
        for (int tag : new int[] {0x82, 0x81}) {
            Node none = Node.octets(tag);
            READING.at("no octets", none, namesOf(none));
            for (int octet = 0; octet < 256; octet++) {
                boolean stands = octet >= 33 && octet <= 126;
                for (int[] octets : new int[][] {{octet}, {octet, 'a'}, {'a', octet}}) {
                    Node name = Node.octets(tag, octets);
                    READING.either("a name with octet " + octet, stands, name, namesOf(name));
                }
            }
        }
    }

    private static void addresses() {
        for (int size = 0; size < 34; size++) {
            Node address = Node.octets(0x87, new byte[size]);
            READING.either("87 of octets " + size, size == 4 || size == 16, address, namesOf(address));
        }
        Node high = Node.octets(0x87, 255, 128, 127, 0);
        READING.stands("any octets in 87", namesOf(high));
    }

    private static void directoryNames() {
        for (int parts = 0; parts < 3; parts++) {
            String[] texts = new String[parts];
            Arrays.fill(texts, "a");
            READING.stands("a directory name of PARTS " + parts, namesOf(Maker.directory(Maker.name(texts))));
        }
        Node none = Node.of(0xA4);
        READING.behind("A4 with none", none, namesOf(none));
        Node two = Maker.name("b");
        READING.at("A4 with two", two, namesOf(Node.of(0xA4, Maker.name("a"), two)));
    }

    private static void oneOfBothAtLeast() {
        Node none = Node.seq();
        READING.behind("none of both", none, inside(30, none));
        READING.stands("permitted alone", inside(30, Node.seq(Maker.trees(0xA0, Maker.dns("a")))));
        READING.stands("excluded alone", inside(30, Node.seq(Maker.trees(0xA1, Maker.dns("a")))));
        READING.stands("both", inside(30, Node.seq(Maker.trees(0xA0, Maker.dns("a")), Maker.trees(0xA1, Maker.dns("a")))));
        for (int first = 0xA0; first < 0xA2; first++) {
            Node again = Maker.trees(first, Maker.dns("a"));
            READING.at("one of both twice", again, inside(30, Node.seq(Maker.trees(first, Maker.dns("a")), again)));
        }
        Node late = Maker.trees(0xA0, Maker.dns("a"));
        READING.at("permitted behind excluded", late, inside(30, Node.seq(Maker.trees(0xA1, Maker.dns("a")), late)));
        for (int tag = 0; tag < 256; tag++) {
            if (tag != 0xA0 && tag != 0xA1) {
                Node other = Maker.trees(tag, Maker.dns("a"));
                READING.at("TREES of tag " + tag, other, inside(30, Node.seq(other)));
                Node third = Maker.trees(tag, Maker.dns("a"));
                READING.at("TREES of tag " + tag + " behind A0", third,
                    inside(30, Node.seq(Maker.trees(0xA0, Maker.dns("a")), third)));
            }
        }
    }

    private static void treesOneOrMore() {
        for (int tag = 0xA0; tag < 0xA2; tag++) {
            Node trees = Node.of(tag);
            READING.behind("no TREES", trees, inside(30, Node.seq(trees)));
            for (int n = 1; n <= 300; n++) {
                trees.kids.add(Node.seq(Maker.dns("a")));
                if (n < 4 || n > 298) {
                    READING.stands("TREES: " + n, inside(30, Node.seq(trees)));
                }
            }
            Node empty = Node.seq();
            READING.behind("a tree of none", empty, inside(30, Node.seq(Node.of(tag, empty))));
            Node second = Maker.dns("b");
            READING.at("a tree of two", second, inside(30, Node.seq(Node.of(tag, Node.seq(Maker.dns("a"), second)))));
            for (int other = 0; other < 256; other++) {
                if (other != 0x82 && other != 0xA4) {
                    Node base = Node.octets(other, 'a');
                    READING.at("a tree with tag " + other, base, inside(30, Node.seq(Maker.trees(tag, base))));
                }
            }
            READING.stands("a tree with A4", inside(30, Node.seq(Maker.trees(tag, Maker.directory(Maker.name())))));
        }
    }

    /** 0 or more octets 33 to 126. */
    private static void treeOctets() {
        for (int tag = 0xA0; tag < 0xA2; tag++) {
            READING.stands("a tree of no octets", inside(30, Node.seq(Maker.trees(tag, Maker.dns("")))));
            for (int octet = 0; octet < 256; octet++) {
                boolean stands = octet >= 33 && octet <= 126;
                for (int[] octets : new int[][] {{octet}, {octet, 'a'}, {'a', octet}}) {
                    Node name = Node.octets(0x82, octets);
                    READING.either("a tree with octet " + octet, stands, name,
                        inside(30, Node.seq(Maker.trees(tag, name))));
                }
            }
        }
    }

    private static void ownKey() {
        for (int size : new int[] {0, 1, 2, 20, 127, 128, 300}) {
            Node key = Node.octets(4, new byte[size]);
            READING.either("OWN KEY of octets " + size, size > 0, key, inside(14, key));
        }
    }

    private static void issuersKey() {
        for (int size : new int[] {0, 1, 2, 20, 127, 128, 300}) {
            Node key = Node.octets(0x80, new byte[size]);
            READING.either("ISSUER'S KEY of octets " + size, size > 0, key, inside(35, Node.seq(key)));
        }
        for (int tag = 0; tag < 256; tag++) {
            Node key = Node.octets(tag, 1);
            READING.either("ISSUER'S KEY of tag " + tag, tag == 0x80, key, inside(35, Node.seq(key)));
        }
        for (Node more : new Node[] {Node.octets(0x80, 1), Node.of(0xA1), Node.octets(0x82, 1), Node.raw(0)}) {
            READING.at("more than 80", more, inside(35, Node.seq(Node.octets(0x80, 1), more)));
        }
    }

    /** All of 2.5.29.x but six, and those that merely look like one of the six. */
    private static void othersAreNotLookedAt() {
        for (int kind = 0; kind < 128; kind++) {
            boolean known = kind == 14 || kind == 15 || kind == 17 || kind == 19 || kind == 30 || kind == 35;
            if (!known) {
                notLookedAt(Node.oid("2.5.29." + kind));
            }
        }
        for (int kind : new int[] {14, 15, 17, 19, 30, 35}) {
            for (String like : new String[] {"2.5.28.", "2.5.30.", "2.4.29.", "2.6.29.", "2.5.29.1.", "1.2.5.29."}) {
                notLookedAt(Node.oid(like + kind));
            }
            notLookedAt(Node.oid("2.5.29." + kind + ".0"));
            notLookedAt(Node.oid("2.5.29." + (kind + 128)));
            notLookedAt(Node.oid("2.5.29." + (kind + 16384)));
        }
        notLookedAt(Node.oid("2.5.29"));
    }

    private static void notLookedAt(Node oid) {
        for (Node inside : new Node[] {Node.raw(), Node.raw(0x30), Node.raw(0x30, 0x82, 255, 255), Node.nul()}) {
            Maker quiet = with(Node.seq(oid, Node.octetString(inside)));
            READING.stands("one that is not known", quiet);
            CHECK.same("not critical: no MATTER", part(quiet, 10), 0);
        }
        CHECK.same("critical: a MATTER", part(with(Node.seq(oid, Node.bool(255), Node.octetString())), 10), 1);
    }
}
