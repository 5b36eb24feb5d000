import java.math.BigInteger;

/** Terms 2: a LIST, its ENTRIES and the EXTENSIONS of both, each sentence on its edges. */
public final class T2ListTest {
    private static final BigInteger ONE = BigInteger.ONE;
    private static final Check CHECK = new Check();
    private static final Reading READING = new Reading(CHECK);

    public static void main(String[] args) {
        version();
        nameNotEmpty();
        order();
        entriesOneAtLeast();
        serialOfAnEntry();
        extensionsOfAnEntry();
        extensionsOneAtLeast();
        numberNotBelowZero();
        numberUpToTwentyOctets();
        issuersKey();
        reasons();
        othersOfAList();
        othersOfAnEntry();
        eachOidOnce();
        signatureLikewise();
        CHECK.end();
    }

    private static Maker with(Node... extensions) {
        return Reading.list().with(extensions);
    }

    private static Maker withEntry(Node... entries) {
        Maker maker = Reading.list();
        for (Node one : entries) {
            maker.entries.add(one);
        }
        return maker;
    }

    private static long part(Maker maker, int what) {
        Store store = new Store();
        store.list(maker);
        return store.x.listPart(0, what);
    }

    private static void version() {
        for (int number = -128; number < 128; number++) {
            Maker maker = Reading.list();
            maker.version = Node.integer(number);
            READING.either("version " + number, number == 1, maker.version, maker);
        }
        for (BigInteger number : new BigInteger[] {BigInteger.valueOf(257), ONE.shiftLeft(32).add(ONE),
            ONE.shiftLeft(64).add(ONE)}) {
            Maker maker = Reading.list();
            maker.version = Node.integer(number);
            READING.at("version " + number, maker.version, maker);
        }
    }

    private static void nameNotEmpty() {
        for (String[] parts : new String[][] {{}, {"a"}, {"a", "b"}}) {
            Maker maker = Reading.list();
            maker.issuer = Maker.name(parts);
            READING.either("a NAME of PARTS " + parts.length, parts.length > 0, maker.issuer, maker);
        }
    }

    /** Each of TBL has its one tag (a TIME has two): with any other it can not stand. */
    private static void order() {
        int[] tags = {0x02, 0x30, 0x30, 0x17, 0x17, 0x30, 0xA0};
        for (int which = 0; which < tags.length; which++) {
            for (int tag = 0; tag < 256; tag++) {
                Maker maker = withEntry(Maker.entry(1)).with(Maker.issuerKey(1));
                byte[] text = maker.text();
                int place = maker.body.kids.get(which).place;
                text[place] = (byte) tag;
                // A0 in the place of the ENTRIES may stand: then the first ENTRY, as EXTENSIONS, has a SERIAL for one.
                int refused = which == 5 && tag == 0xA0 ? place + 4 : place;
                READING.read("tag " + tag + " of the one " + which, text, true, tag == tags[which] ? -1 : refused);
            }
        }
        Node entries = Node.seq(Maker.entry(1));
        Maker late = with(Maker.issuerKey(1));
        late.more.add(entries);
        READING.at("ENTRIES behind A0", entries, late);
    }

    private static void entriesOneAtLeast() {
        CHECK.same("no ENTRIES at all", part(Reading.list(), 2), 0);
        Node none = Node.seq();
        Maker empty = Reading.list();
        empty.more.add(none);
        READING.behind("ENTRIES: none", none, empty);
        Maker maker = Reading.list();
        for (int n = 1; n <= 90; n++) {
            maker.entries.add(Maker.entry(n));
            if (n < 4 || n > 88) {
                READING.stands("ENTRIES: " + n, maker);
                CHECK.same("listPart(0, 2)", part(maker, 2), n);
            }
        }
        Node again = Node.seq(Maker.entry(1));
        Maker twice = withEntry(Maker.entry(1));
        twice.more.add(again);
        READING.at("ENTRIES twice", again, twice);
    }

    private static void serialOfAnEntry() {
        for (int number : new int[] {-256, -129, -128, -1, 0, 1, 2, 127, 128, 255, 256}) {
            Node serial = Node.integer(number);
            READING.either("SERIAL " + number, number > 0, serial,
                withEntry(Node.seq(serial, Node.utc("210101000000Z"))));
        }
        for (int octets = 1; octets <= 22; octets++) {
            Node least = Node.integer(ONE.shiftLeft(Math.max(0, 8 * octets - 9)));
            Node most = Node.integer(ONE.shiftLeft(8 * octets - 1).subtract(ONE));
            for (Node serial : new Node[] {least, most}) {
                READING.either("SERIAL of octets " + octets, octets <= 20, serial,
                    withEntry(Node.seq(serial, Node.utc("210101000000Z"))));
            }
        }
    }

    private static void extensionsOfAnEntry() {
        READING.stands("an ENTRY without them", withEntry(Maker.entry(1)));
        READING.stands("an ENTRY with one", withEntry(Maker.entry(1, Maker.extension("1.2.3", false, Node.raw()))));
        Node none = Node.seq();
        Node entry = Node.seq(Node.integer(1), Node.utc("210101000000Z"), none);
        READING.behind("an ENTRY with none", none, withEntry(entry));
        for (int tag = 0; tag < 256; tag++) {
            if (tag != 0x30) {
                Node other = Node.of(tag, Maker.extension("1.2.3", false, Node.raw()));
                READING.at("EXTENSIONS of an ENTRY of tag " + tag, other,
                    withEntry(Node.seq(Node.integer(1), Node.utc("210101000000Z"), other)));
            }
        }
        Node second = Node.seq(Maker.extension("1.2.3", false, Node.raw()));
        Node twice = Maker.entry(1, Maker.extension("1.2.3", false, Node.raw()));
        twice.kids.add(second);
        READING.at("EXTENSIONS of an ENTRY twice", second, withEntry(twice));
    }

    private static void extensionsOneAtLeast() {
        READING.stands("no A0", Reading.list());
        READING.stands("A0 with one", with(Maker.issuerKey(1)));
        Node none = Node.seq();
        Maker empty = Reading.list();
        empty.more.add(Node.of(0xA0, none));
        READING.behind("A0 with none", none, empty);
        Node second = Node.seq(Maker.issuerKey(1));
        Maker two = Reading.list();
        two.more.add(Node.of(0xA0, Node.seq(Maker.issuerKey(1)), second));
        READING.at("two SEQS in A0", second, two);
    }

    private static void numberNotBelowZero() {
        for (int number : new int[] {Integer.MIN_VALUE, -256, -129, -128, -127, -2, -1, 0, 1, 127, 128, 255, 256}) {
            Node one = Node.integer(number);
            READING.either("the number " + number, number >= 0, one, with(Maker.extension(20, false, one)));
        }
        for (Node other : new Node[] {Node.octets(2), Node.octets(2, 0, 0), Node.octets(2, 0, 127), Node.octets(0x0A, 1),
            Node.nul()}) {
            READING.at("no number", other, with(Maker.extension(20, false, other)));
        }
    }

    private static void numberUpToTwentyOctets() {
        for (int octets = 1; octets <= 22; octets++) {
            Node least = Node.integer(ONE.shiftLeft(Math.max(0, 8 * octets - 9)));
            Node most = Node.integer(ONE.shiftLeft(8 * octets - 1).subtract(ONE));
            for (Node number : new Node[] {least, most}) {
                READING.either("a number of octets " + octets, octets <= 20, number,
                    with(Maker.extension(20, true, number)));
            }
        }
    }

    private static void issuersKey() {
        for (int size : new int[] {0, 1, 2, 128}) {
            Node key = Node.octets(0x80, new byte[size]);
            READING.either("ISSUER'S KEY of octets " + size, size > 0, key, with(Maker.extension(35, true, Node.seq(key))));
        }
        Node more = Node.octets(0x80, 1);
        READING.at("ISSUER'S KEY and more", more, with(Maker.extension(35, false, Node.seq(Node.octets(0x80, 1), more))));
    }

    private static void reasons() {
        for (int reason = -128; reason < 128; reason++) {
            Node one = Node.octets(0x0A, reason & 255);
            READING.either("reason " + reason, reason >= 0 && reason <= 10 && reason != 7, one,
                withEntry(Maker.entry(1, Maker.extension(21, true, one))));
        }
        for (int[] octets : new int[][] {{1, 0}, {1, 1}, {0, 128}, {0, 0, 0, 0, 0, 0, 0, 0, 1}, {1, 0, 0, 0, 0, 0, 0, 0, 1}}) {
            Node one = Node.octets(0x0A, octets);
            READING.at("a reason of octets", one, withEntry(Maker.entry(1, Maker.extension(21, true, one))));
        }
    }

    /** In a LIST just 20 and 35 are known. */
    private static void othersOfAList() {
        for (int kind = 0; kind < 128; kind++) {
            if (kind != 20 && kind != 35) {
                Maker quiet = with(Maker.extension(kind, false, Node.raw(0x30)));
                READING.stands("2.5.29." + kind + " in a LIST", quiet);
                CHECK.same("no MATTER", part(quiet, 3), 0);
                CHECK.same("a MATTER", part(with(Maker.extension(kind, true, Node.raw())), 3), 1);
            }
        }
        CHECK.same("20 and 35, critical", part(with(Maker.extension(20, true, Node.integer(0)),
            Maker.extension(35, true, Node.seq(Node.octets(0x80, 1)))), 3), 0);
    }

    /** In an ENTRY just 21 is known; a MATTER of each ENTRY counts for the LIST. */
    private static void othersOfAnEntry() {
        for (int kind = 0; kind < 128; kind++) {
            if (kind != 21) {
                Maker quiet = withEntry(Maker.entry(1, Maker.extension(kind, false, Node.raw(0x30))));
                READING.stands("2.5.29." + kind + " in an ENTRY", quiet);
                CHECK.same("no MATTER", part(quiet, 3), 0);
                Maker loud = withEntry(Maker.entry(1, Maker.extension(kind, true, Node.raw())));
                CHECK.same("a MATTER", part(loud, 3), 1);
            }
        }
        CHECK.same("21, critical", part(withEntry(Maker.entry(1, Maker.extension(21, true, Node.octets(0x0A, 1)))), 3), 0);
        Node one = Maker.extension("1.2.3", true, Node.raw());
        Node two = Maker.extension("1.2.4", true, Node.raw());
        CHECK.same("MATTERS of all", part(withEntry(Maker.entry(1, one, two), Maker.entry(2), Maker.entry(3, one))
            .with(two), 3), 4);
    }

    /** In one SEQ of EXTENSIONS; those of another ENTRY or of the LIST do not count. */
    private static void eachOidOnce() {
        Node again = Maker.extension("1.2.3", false, Node.raw());
        READING.at("twice in an ENTRY", again,
            withEntry(Maker.entry(1, Maker.extension("1.2.3", false, Node.raw()), again)));
        Node inList = Maker.issuerKey(2);
        READING.at("twice in a LIST", inList, with(Maker.issuerKey(1), inList));
        Node same = Maker.extension("1.2.3", false, Node.raw());
        READING.stands("once in each", withEntry(Maker.entry(1, same), Maker.entry(2, same)).with(same));
    }

    private static void signatureLikewise() {
        for (int[] octets : new int[][] {{}, {0}, {0, 1}, {1, 2}, {7, 128}, {8, 0}, {255}}) {
            Maker maker = Reading.list();
            maker.signature = Node.octets(3, octets);
            boolean stands = octets.length > 0 && octets[0] == 0;
            READING.either("the BIT STRING of a LIST", stands, maker.signature, maker);
        }
        Node inner = Node.oid("1.2.840.113549.1.1.1");
        Maker one = Reading.list();
        one.innerAlg = Node.seq(inner, Node.nul());
        READING.at("the first ALG of a LIST", inner, one);
        Node outer = Node.oid("1.2.840.113549.1.1.12");
        Maker two = Reading.list();
        two.outerAlg = Node.seq(outer, Node.nul());
        READING.at("the last ALG of a LIST", outer, two);
    }
}
