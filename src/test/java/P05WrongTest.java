import java.math.BigInteger;
import java.util.function.Consumer;

/** Promise 5: where a text was WRONG. Each case puts one thing in the place of another and tells what is due. */
public final class P05WrongTest {
    private static final Key ROOT = Key.small(1);
    private static final Key LEAF = Key.small(2);
    private static final Check CHECK = new Check();

    public static void main(String[] args) {
        whenItStays();
        forms();
        heads();
        strings();
        times();
        keys();
        extensions();
        basicAndUsage();
        names();
        lists();
        whatLooksLikeTheNext();
        CHECK.end();
    }

    private static Maker leaf() {
        return new Maker("leaf", LEAF, "root", ROOT);
    }

    private static Maker plainList() {
        return new Maker("root", ROOT);
    }

    private static int wrongOf(byte[] text, boolean list) {
        Store store = new Store();
        store.feed(text);
        try {
            if (list) {
                store.x.list(text.length);
            } else {
                store.x.certificate(text.length, false);
            }
        } catch (IllegalArgumentException refused) {
            CHECK.same("stored of what is WRONG", store.x.count(0) + store.x.count(1), 0);
        }
        return store.x.wrong();
    }

    private static void at(String what, Node due, Maker maker) {
        CHECK.same(what, wrongOf(maker.certificate(), false), due.place);
    }

    private static void behind(String what, Node due, Maker maker) {
        CHECK.same(what, wrongOf(maker.certificate(), false), due.end);
    }

    private static void listAt(String what, Node due, Maker maker) {
        CHECK.same(what, wrongOf(maker.list(), true), due.place);
    }

    private static void listBehind(String what, Node due, Maker maker) {
        CHECK.same(what, wrongOf(maker.list(), true), due.end);
    }

    private static Maker changed(Consumer<Maker> change) {
        Maker maker = leaf();
        change.accept(maker);
        return maker;
    }

    private static Maker changedList(Consumer<Maker> change) {
        Maker maker = plainList();
        change.accept(maker);
        return maker;
    }

    private static void whenItStays() {
        Store store = new Store();
        TrustChain x = store.x;
        byte[] text = leaf().certificate();
        store.feed(text);
        CHECK.illegal("too short a text", () -> x.certificate(text.length - 1, false));
        CHECK.same("wrong()", x.wrong(), 0);
        int fed = store.feed(text);
        CHECK.illegal("too long a text", () -> x.certificate(text.length + 1, false));
        CHECK.same("wrong()", x.wrong(), text.length);
        CHECK.outOfBounds("no text", () -> x.certificate(fed, false));
        CHECK.outOfBounds("no list", () -> x.list(-1));
        CHECK.same("wrong() stays", x.wrong(), text.length);
        CHECK.illegal("an empty list", () -> x.list(0));
        CHECK.same("wrong() of a list", x.wrong(), 0);
        store.certificate(text, true);
        CHECK.same("wrong() of what stands", x.wrong(), -1);
    }

    private static void forms() {
        for (int[] header : new int[][] {{0x02, 0x81, 1}, {0x02, 0x82, 0, 1}, {0x02, 0x80}, {0x02, 0x83, 0, 0, 1},
            {0x02, 0x81, 127}, {0x02, 0x82, 0, 255}, {0x02, 0x82, 8, 0}, {0x02, 255}, {0x04, 1}, {0x22, 1}}) {
            Node bad = Node.odd(header, Node.raw(1));
            at("a length of another form", bad, changed(m -> m.serial = bad));
        }
        for (int length = 0x80; length < 0x100; length += length == 0x80 ? 3 : 1) {
            Node bad = Node.odd(new int[] {0x04, length}, Node.raw(new int[length]));
            at("a length of one octet above 127", bad, changed(m -> m.with(Node.seq(Node.oid("1.2.3"), bad))));
        }
        Node beyond = Node.odd(new int[] {0x02, 2}, Node.raw(2));
        at("beyond the one around it", beyond, changed(m -> m.version = Node.of(0xA0, beyond)));
        Node cut = Node.raw(0x02);
        at("a tag alone", cut, changed(m -> m.version = Node.of(0xA0, cut)));
        Node half = Node.raw(0x02, 0x82, 1);
        at("half a length", half, changed(m -> m.version = Node.of(0xA0, half)));
        byte[] text = leaf().certificate();
        for (int n = 1; n < 8; n++) {
            byte[] shorter = java.util.Arrays.copyOf(text, n);
            CHECK.same("of octets " + n, wrongOf(shorter, false), 0);
        }
        Node extra = Node.nul();
        at("behind the signature", extra, changed(m -> m.behind.add(extra)));
        Node more = Node.nul();
        at("behind the key", more, changed(m -> m.more.add(more)));
        Node second = Node.of(0xA3, Node.seq(Maker.ca()));
        at("A3 twice", second, changed(m -> m.with(Maker.ca()).more.add(second)));
        Node other = Node.of(0xA1, Node.seq(Maker.ca()));
        at("A1 for A3", other, changed(m -> m.more.add(other)));
    }

    private static void heads() {
        for (Node bad : new Node[] {Node.integer(1), Node.integer(3), Node.integer(-2), Node.octets(0x02),
            Node.octets(0x02, 0, 2), Node.octets(0x0A, 2), Node.integer(258)}) {
            at("version", bad, changed(m -> m.version = Node.of(0xA0, bad)));
        }
        Node empty = Node.of(0xA0);
        behind("no version in A0", empty, changed(m -> m.version = empty));
        Node twice = Node.integer(2);
        at("two versions", twice, changed(m -> m.version = Node.of(0xA0, Node.integer(2), twice)));
        Node bare = Node.integer(2);
        at("no A0", bare, changed(m -> m.version = bare));
        for (Node bad : new Node[] {Node.integer(0), Node.integer(-1), Node.octets(0x02), Node.octets(0x02, 0, 1),
            Node.octets(0x02, 0xFF, 0x80), Node.integer(BigInteger.ONE.shiftLeft(159)), Node.integer(-128),
            Node.integer(BigInteger.ONE.shiftLeft(170)), Node.integer(-129), Node.bool(255)}) {
            at("serial", bad, changed(m -> m.serial = bad));
        }
        algorithms();
        Node noIssuer = Maker.name();
        at("an empty ISSUER", noIssuer, changed(m -> m.issuer = noIssuer));
        for (Node bad : new Node[] {Node.octets(0x03), Node.octets(0x03, 1, 2), Node.octets(0x03, 8, 0),
            Node.octets(0x04, 0), Node.octets(0x03, 255)}) {
            at("signature", bad, changed(m -> m.signature = bad));
        }
        Node hollow = Node.octets(0x03);
        at("an empty BIT STRING before a 0", hollow, changed(m -> {
            m.signature = hollow;
            m.behind.add(Node.raw(0, 0));
        }));
        Maker short1 = leaf();
        short1.signature = Node.raw();
        byte[] text = short1.certificate();
        CHECK.same("no signature", wrongOf(text, false), text.length);
    }

    private static void algorithms() {
        Node id = Node.oid("1.2.840.113549.1.1.1");
        at("another inner ALG", id, changed(m -> m.innerAlg = Node.seq(id, Node.nul())));
        Node outer = Node.oid("1.2.840.113549.1.1.12");
        at("another outer ALG", outer, changed(m -> m.outerAlg = Node.seq(outer, Node.nul())));
        Node longer = Node.oid("1.2.840.113549.1.1.11.1");
        at("a longer ALG", longer, changed(m -> m.outerAlg = Node.seq(longer, Node.nul())));
        Node shorter = Node.oid("1.2.840.113549.1.1");
        at("a shorter ALG", shorter, changed(m -> m.outerAlg = Node.seq(shorter, Node.nul())));
        for (int i = 0; i < 9; i++) {
            int[] octets = {0x2A, 0x86, 0x48, 0x86, 0xF7, 0x0D, 0x01, 0x01, 0x0B};
            octets[i]++;
            Node near = Node.octets(0x06, octets);
            at("an ALG with one octet changed", near, changed(m -> m.innerAlg = Node.seq(near, Node.nul())));
        }
        Node full = Node.octets(0x05, 0);
        at("NULL with an octet", full, changed(m -> m.innerAlg = Node.seq(Node.oid("1.2.840.113549.1.1.11"), full)));
        Node noNull = Node.seq(Node.oid("1.2.840.113549.1.1.11"));
        behind("no NULL", noNull, changed(m -> m.outerAlg = noNull));
        Node none = Node.seq();
        behind("an empty ALG", none, changed(m -> m.outerAlg = none));
        Node third = Node.nul();
        at("two NULLs", third,
            changed(m -> m.innerAlg = Node.seq(Node.oid("1.2.840.113549.1.1.11"), Node.nul(), third)));
    }

    private static void strings() {
        Node[] bad = {
            Node.text(0x13, ""), Node.text(0x0C, ""), Node.text(0x16, ""), Node.text(0x13, "a@b"),
            Node.text(0x13, "a_b"), Node.text(0x13, "a*b"), Node.text(0x13, "a\"b"), Node.text(0x13, "a;b"),
            Node.text(0x13, "a<b"), Node.text(0x13, "a>b"), Node.text(0x13, "a&b"), Node.octets(0x13, 0xC3),
            Node.octets(0x16, 'a', 128), Node.octets(0x0C, 0x80), Node.octets(0x0C, 0xC0, 0x80),
            Node.octets(0x0C, 0xC1, 0xBF), Node.octets(0x0C, 0xC2), Node.octets(0x0C, 0xC2, 'a'),
            Node.octets(0x0C, 0xE0, 0x9F, 0xBF), Node.octets(0x0C, 0xED, 0xA0, 0x80), Node.octets(0x0C, 0xED, 0xBF, 0xBF),
            Node.octets(0x0C, 0xF0, 0x8F, 0xBF, 0xBF), Node.octets(0x0C, 0xF4, 0x90, 0x80, 0x80),
            Node.octets(0x0C, 0xF8, 0x88, 0x80, 0x80, 0x80), Node.octets(0x0C, 0xE1, 0x80), Node.octets(0x0C, 0xFF),
            Node.octets(0x0C, 0x82, 0x80), Node.octets(0x0C, 0xBF, 0xBF), Node.octets(0x0C, 0xF9, 0x90, 0x80, 0x80),
            Node.octets(0x0C, 0xFC, 0x90, 0x80, 0x80), Node.octets(0x0C, 0xE1, 0x80, 0xC0), Node.octets(0x14, 'a'), Node.octets(0x1E, 0, 'a'), Node.octets(0x04, 'a')
        };
        for (Node one : bad) {
            at("a string", one, changed(m -> m.subject = Node.seq(Maker.part("2.5.4.3", one))));
            at("a string of the ISSUER", one, changed(m -> m.issuer = Node.seq(Maker.part("2.5.4.3", one))));
        }
        for (Node id : new Node[] {Node.octets(0x06), Node.octets(0x06, 0x80, 1), Node.octets(0x06, 0x55, 0x80, 1),
            Node.octets(0x06, 0x55, 0x84), Node.octets(0x06, 0x85), Node.octets(0x0D, 1)}) {
            Node name = Node.seq(Node.set(Node.seq(id, Node.text(0x13, "a"))));
            at("an OID of a NAME", id, changed(m -> m.subject = name));
        }
        Node pair = Node.seq(Node.oid("2.5.4.3"));
        behind("no string", pair, changed(m -> m.subject = Node.seq(Node.set(pair))));
        Node hollow = Node.seq();
        behind("no OID", hollow, changed(m -> m.subject = Node.seq(Node.set(hollow))));
        Node set = Node.set();
        behind("an empty SET", set, changed(m -> m.subject = Node.seq(set)));
        Node two = Node.seq(Node.oid("2.5.4.3"), Node.text(0x13, "b"));
        Node one = Node.seq(Node.oid("2.5.4.3"), Node.text(0x13, "a"));
        at("two in a SET", two, changed(m -> m.subject = Node.seq(Node.set(one, two))));
        Node third = Node.text(0x13, "c");
        Node pairAndMore = Node.seq(Node.oid("2.5.4.3"), Node.text(0x13, "a"), third);
        at("three in a SEQ", third, changed(m -> m.subject = Node.seq(Node.set(pairAndMore))));
        Node seq = Node.seq(Node.oid("2.5.4.3"), Node.text(0x13, "a"));
        at("SEQ for SET", seq, changed(m -> m.subject = Node.seq(seq)));
        Node noName = Node.set();
        at("SET for NAME", noName, changed(m -> m.subject = noName));
    }

    private static void times() {
        String[] shortOnes = {
            "200001000000Z", "201301000000Z", "200100000000Z", "200132000000Z", "200431000000Z", "210229000000Z",
            "200230000000Z", "200101240000Z", "200101006000Z", "200101000060Z", "2001010000Z", "20010100000Z",
            "200101000000", "200101000000z", "20010100000aZ", "2001010000000Z", "200101000000+0000", "", "2/0101000000Z",
            "20:101000000Z", "500229000000Z"
        };
        for (String text : shortOnes) {
            Node bad = Node.utc(text);
            at("UTCTIME " + text, bad, changed(m -> m.times = Node.seq(bad, Node.utc("300101000000Z"))));
            Node later = Node.utc(text);
            at("UTCTIME " + text, later, changed(m -> m.times = Node.seq(Node.utc("300101000000Z"), later)));
        }
        int[] daysOfMonths = {31, 28, 31, 30, 31, 30, 31, 31, 30, 31, 30, 31};
        for (int month = 1; month <= 12; month++) {
            Node bad = Node.utc("21" + (month < 10 ? "0" : "") + month + (daysOfMonths[month - 1] + 1) + "000000Z");
            at("a day behind month " + month, bad, changed(m -> m.times = Node.seq(bad, Node.utc("300101000000Z"))));
        }
        String[] longOnes = {
            "20491231235959Z", "20200101000000Z", "21000229000000Z", "20501301000000Z", "20500101000000", "500101000000Z",
            "20500101000000.0Z", "20500101240000Z", "2050010100000Z", "205001010000000Z", "20500100000000Z"
        };
        for (String text : longOnes) {
            Node bad = Node.general(text);
            at("GENERALIZED " + text, bad, changed(m -> m.times = Node.seq(bad, Node.utc("300101000000Z"))));
        }
        Node half = Node.seq(Node.utc("200101000000Z"));
        behind("one TIME", half, changed(m -> m.times = half));
        Node third = Node.utc("200101000000Z");
        at("three TIMES", third,
            changed(m -> m.times = Node.seq(Node.utc("200101000000Z"), Node.utc("200101000000Z"), third)));
        Node number = Node.integer(5);
        at("no TIME", number, changed(m -> m.times = Node.seq(number)));
    }

    private static Node publicKey(Node... inKey) {
        return Node.seq(Maker.alg(1), Node.bits(0, Node.seq(inKey)));
    }

    private static void keys() {
        BigInteger one = BigInteger.ONE;
        for (Node n : new Node[] {Node.integer(one.shiftLeft(494).setBit(0)), Node.integer(one.shiftLeft(2048).setBit(0)),
            Node.integer(one.shiftLeft(511).negate().setBit(0)), Node.integer(LEAF.n.subtract(one)),
            Node.integer(LEAF.n.negate()), Node.integer(0), Node.octets(0x02),
            Node.octets(0x02, 0, 0, 1), Node.bool(255)}) {
            at("n", n, changed(m -> m.publicKey = publicKey(n, Node.integer(3))));
        }
        for (Node e : new Node[] {Node.integer(1), Node.integer(2), Node.integer(65536), Node.integer(-3), Node.integer(0),
            Node.integer(1L << 31 | 1), Node.integer((1L << 32) + 3), Node.octets(0x02, 0, 3), Node.octets(0x02),
            Node.integer(one.shiftLeft(64).setBit(1).setBit(0)), Node.integer(one.shiftLeft(200).setBit(0)), Node.nul()}) {
            at("e", e, changed(m -> m.publicKey = publicKey(Node.integer(LEAF.n), e)));
        }
        Node half = Node.seq(Node.integer(LEAF.n));
        behind("no e", half, changed(m -> m.publicKey = Node.seq(Maker.alg(1), Node.bits(0, half))));
        Node third = Node.nul();
        at("more in the KEY", third,
            changed(m -> m.publicKey = publicKey(Node.integer(LEAF.n), Node.integer(3), third)));
        Node later = Node.nul();
        at("behind the KEY", later,
            changed(m -> m.publicKey = Node.seq(Maker.alg(1), Node.bits(0, LEAF.node(), later))));
        Node none = Node.bits(0);
        behind("no KEY", none, changed(m -> m.publicKey = Node.seq(Maker.alg(1), none)));
        Node unused = Node.bits(1, Node.seq(Node.integer(1)));
        at("bits not used, before the KEY", unused, changed(m -> m.publicKey = Node.seq(Maker.alg(1), unused)));
        Node hollow = Node.octets(0x03);
        at("an empty BIT STRING", hollow, changed(m -> m.publicKey = Node.seq(Maker.alg(1), hollow)));
        Node id = Node.oid("1.2.840.113549.1.1.11");
        Node alg = Node.seq(id, Node.nul());
        at("another key", id, changed(m -> m.publicKey = Node.seq(alg, Node.bits(0, LEAF.node()))));
        Node extra = Node.nul();
        at("behind the BIT STRING", extra,
            changed(m -> m.publicKey = Node.seq(Maker.alg(1), Node.bits(0, LEAF.node()), extra)));
    }

    private static void extensions() {
        Node none = Node.seq();
        behind("no EXTENSIONS", none, changed(m -> m.more.add(Node.of(0xA3, none))));
        Node hollow = Node.of(0xA3);
        behind("an empty A3", hollow, changed(m -> m.more.add(hollow)));
        Node second = Node.seq(Maker.ca());
        at("two SEQs in A3", second, changed(m -> m.more.add(Node.of(0xA3, Node.seq(Maker.ca()), second))));
        Node again = Maker.ca();
        at("an OID twice", again, changed(m -> m.with(Maker.ca(), Maker.ownKey(1), again)));
        Node unknown = Maker.extension("1.2.3", false, Node.raw(1));
        at("an unknown OID twice", unknown, changed(m -> m.with(Maker.extension("1.2.3", true, Node.raw()), unknown)));
        Node inner = Node.bool(0);
        Node basic = Node.seq(inner);
        at("an OID twice, WRONG in it", inner, changed(m -> m.with(Maker.ca(), Maker.extension(19, true, basic))));
        Node late = Node.nul();
        at("an OID twice, more in it", late, changed(m -> m.with(Maker.ownKey(1),
            Node.seq(Node.oid("2.5.29.14"), Node.octetString(Node.octets(0x04, 1)), late))));
        for (int octet : new int[] {0, 1, 128, 254}) {
            Node flag = Node.bool(octet);
            at("not critical", flag, changed(m -> m.with(Node.seq(Node.oid("1.2.3"), flag, Node.octetString()))));
        }
        Node wide = Node.octets(0x01, 255, 255);
        at("a BOOLEAN of two", wide, changed(m -> m.with(Node.seq(Node.oid("1.2.3"), wide, Node.octetString()))));
        Node bad = Node.octets(0x06, 0x55, 0x9D);
        at("an OID that goes on", bad, changed(m -> m.with(Node.seq(bad, Node.octetString()))));
        Node noOctets = Node.seq(Node.oid("1.2.3"), Node.bool(255));
        behind("no OCTETS", noOctets, changed(m -> m.with(noOctets)));
        Node noId = Node.octetString();
        at("no OID", noId, changed(m -> m.with(Node.seq(noId))));
        Node nothing = Node.seq();
        behind("an empty EXTENSION", nothing, changed(m -> m.with(nothing)));
        Node extra = Node.nul();
        at("behind the OCTETS", extra, changed(m -> m.with(Node.seq(Node.oid("1.2.3"), Node.octetString(), extra))));
        for (int kind : new int[] {14, 15, 17, 19, 30, 35}) {
            Node octets = Node.octetString();
            behind("nothing in " + kind, octets, changed(m -> m.with(Node.seq(Node.oid("2.5.29." + kind), octets))));
            Node wrongTag = Node.nul();
            at("NULL in " + kind, wrongTag, changed(m -> m.with(Maker.extension(kind, false, wrongTag))));
        }
    }

    private static void basicAndUsage() {
        Node zero = Node.bool(0);
        at("CA is 0", zero, changed(m -> m.with(Maker.extension(19, true, Node.seq(zero)))));
        Node alone = Node.integer(0);
        at("LENGTH without CA", alone, changed(m -> m.with(Maker.extension(19, true, Node.seq(alone)))));
        Node later = Node.integer(0);
        at("LENGTH without CA in a second BASIC", later,
            changed(m -> m.with(Maker.ca(1), Maker.extension(19, true, Node.seq(later)))));
        for (Node length : new Node[] {Node.integer(-1), Node.integer(-128), Node.integer(-127), Node.integer(256), Node.octets(0x02), Node.octets(0x02, 0, 1),
            Node.integer(BigInteger.ONE.shiftLeft(64))}) {
            at("LENGTH", length, changed(m -> m.with(Maker.extension(19, true, Node.seq(Node.bool(255), length)))));
        }
        Node second = Node.integer(1);
        at("LENGTH twice", second,
            changed(m -> m.with(Maker.extension(19, true, Node.seq(Node.bool(255), Node.integer(1), second)))));
        Node flag = Node.bool(255);
        at("CA twice", flag, changed(m -> m.with(Maker.extension(19, true, Node.seq(Node.bool(255), flag)))));
        for (int[] octets : new int[][] {{}, {0}, {7}, {8, 128}, {0, 0}, {0, 2}, {1, 1}, {1, 4}, {7, 0}, {7, 192}, {0, 1, 0},
            {0, 255, 0}, {7, 1, 64}, {0, 1, 1, 1}, {255, 128}, {2, 8}}) {
            Node usage = Node.octets(0x03, octets);
            at("USAGE", usage, changed(m -> m.with(Maker.extension(15, true, usage))));
        }
        Node tail = Node.nul();
        Node octets = Node.octetString(Node.octets(0x03, 7, 128), tail);
        at("behind USAGE", tail, changed(m -> m.with(Node.seq(Node.oid("2.5.29.15"), octets))));
        Node own = Node.octets(0x04);
        at("an empty OWN KEY", own, changed(m -> m.with(Maker.extension(14, false, own))));
        Node key = Node.octets(0x80);
        at("an empty ISSUER'S KEY", key, changed(m -> m.with(Maker.extension(35, false, Node.seq(key)))));
        Node none = Node.seq();
        behind("no ISSUER'S KEY", none, changed(m -> m.with(Maker.extension(35, false, none))));
        Node more = Node.octets(0x82, 1);
        at("more than 80", more, changed(m -> m.with(Maker.extension(35, false, Node.seq(Node.octets(0x80, 1), more)))));
    }

    private static void names() {
        Node none = Node.seq();
        behind("no NAMES", none, changed(m -> m.with(Maker.extension(17, false, none))));
        for (Node bad : new Node[] {Maker.dns(""), Maker.dns("a b"), Node.octets(0x82, 127), Node.octets(0x82, 'a', 200),
            Node.octets(0x81), Node.octets(0x81, 32), Node.octets(0x87), Node.octets(0x87, 1, 2, 3),
            Node.octets(0x87, 1, 2, 3, 4, 5), Node.octets(0x87, new byte[15]), Node.octets(0x87, new byte[17]),
            Node.octets(0x86, 'a'), Node.octets(0x80, 'a'), Node.octets(0x88, 1), Node.of(0xA0, Maker.name("a"))}) {
            at("a name", bad, changed(m -> m.with(Maker.names(Maker.dns("a.b"), bad))));
            at("a name, the first", bad, changed(m -> m.with(Maker.names(bad))));
        }
        Node hollow = Node.of(0xA4);
        behind("no directory name", hollow, changed(m -> m.with(Maker.names(hollow))));
        Node second = Maker.name("b");
        at("two directory names", second, changed(m -> m.with(Maker.names(Node.of(0xA4, Maker.name("a"), second)))));
        Node bad = Node.text(0x13, "*");
        at("in a directory name", bad,
            changed(m -> m.with(Maker.names(Node.of(0xA4, Node.seq(Maker.part("2.5.4.3", bad)))))));
        Node noTrees = Node.seq();
        behind("no TREES", noTrees, changed(m -> m.with(Maker.extension(30, true, noTrees))));
        for (int tag : new int[] {0xA0, 0xA1}) {
            Node empty = Node.of(tag);
            behind("no tree", empty, changed(m -> m.with(Maker.constraints(empty))));
            Node tree = Node.seq();
            behind("an empty tree", tree, changed(m -> m.with(Maker.constraints(Node.of(tag, tree)))));
            Node two = Maker.dns("b");
            at("two in a tree", two,
                changed(m -> m.with(Maker.constraints(Node.of(tag, Node.seq(Maker.dns("a"), two))))));
            for (Node base : new Node[] {Maker.dns("a b"), Node.octets(0x81, 'a'), Node.octets(0x87, 1, 2, 3, 4),
                Node.octets(0x82, 127)}) {
                at("a tree", base, changed(m -> m.with(Maker.constraints(Maker.trees(tag, Maker.dns("a"), base)))));
            }
        }
        Node late = Maker.trees(0xA0, Maker.dns("a"));
        at("A1, then A0", late, changed(m -> m.with(Maker.constraints(Maker.trees(0xA1, Maker.dns("a")), late))));
        Node twice = Maker.trees(0xA0, Maker.dns("a"));
        at("A0 twice", twice, changed(m -> m.with(Maker.constraints(Maker.trees(0xA0, Maker.dns("a")), twice))));
        Node other = Maker.trees(0xA2, Maker.dns("a"));
        at("A2", other, changed(m -> m.with(Maker.constraints(other))));
        Node third = Maker.trees(0xA1, Maker.dns("a"));
        at("A1 twice", third, changed(m -> m.with(Maker.constraints(Maker.trees(0xA0, Maker.dns("a")),
            Maker.trees(0xA1, Maker.dns("a")), third))));
    }

    /** What is too much in an element, and would fit as what follows that element. */
    private static void whatLooksLikeTheNext() {
        Node name = Maker.name("a");
        at("a NAME in ALG", name,
            changed(m -> m.innerAlg = Node.seq(Node.oid("1.2.840.113549.1.1.11"), Node.nul(), name)));
        Node subject = Maker.name("a");
        at("a NAME behind the TIMES", subject, changed(m -> m.times = Node.seq(m.first, m.last, subject)));
        Node serial = Node.integer(1);
        at("a SERIAL in A0", serial, changed(m -> m.version = Node.of(0xA0, Node.integer(2), serial)));
        Node set = Maker.part("2.5.4.3", Node.text(0x13, "b"));
        Node pair = Node.seq(Node.oid("2.5.4.3"), Node.text(0x13, "a"));
        at("a SET in a SET", set, changed(m -> m.subject = Node.seq(Node.set(pair, set))));
        Node alg = Maker.alg(11);
        at("ALG in TBS", alg, changed(m -> m.more.add(alg)));
        Node later = Node.of(0xA3, Node.seq(Maker.ca()));
        at("A3 in the key", later,
            changed(m -> m.publicKey = Node.seq(Maker.alg(1), Node.bits(0, LEAF.node()), later)));
        Node dns = Maker.dns("a");
        at("a DNS name in A4", dns, changed(m -> m.with(Maker.names(Node.of(0xA4, Maker.name("a"), dns)))));
        Node tree = Node.seq(Maker.dns("a"));
        at("a tree in a tree", tree,
            changed(m -> m.with(Maker.constraints(Node.of(0xA0, Node.seq(Maker.dns("b"), tree))))));
        Node excluded = Maker.trees(0xA1, Maker.dns("a"));
        at("A1 in A0", excluded,
            changed(m -> m.with(Maker.constraints(Node.of(0xA0, Node.seq(Maker.dns("b")), excluded)))));
        Node extension = Maker.ca();
        at("an EXTENSION in one", extension,
            changed(m -> m.with(Node.seq(Node.oid("1.2.3"), Node.octetString(), extension))));
        Node entry = Maker.entry(2);
        listAt("an ENTRY in one", entry, changedList(m -> m.entries.add(Node.seq(Node.integer(1),
            Node.utc("200101000000Z"), Node.seq(Maker.extension("1.2.3", false, Node.raw())), entry))));
        Node behindEntries = Maker.alg(11);
        listAt("ALG in TBL", behindEntries, changedList(m -> m.revoking(1).more.add(behindEntries)));
    }

    private static void lists() {
        for (Node version : new Node[] {Node.integer(0), Node.integer(2), Node.octets(0x02, 0, 1), Node.octets(0x02),
            Node.of(0xA0, Node.integer(1))}) {
            listAt("version of a list", version, changedList(m -> m.version = version));
        }
        Node noName = Maker.name();
        listAt("an empty NAME", noName, changedList(m -> m.issuer = noName));
        Node alg = Node.oid("1.2.3");
        listAt("ALG", alg, changedList(m -> m.innerAlg = Node.seq(alg, Node.nul())));
        listAt("outer ALG", alg, changedList(m -> m.outerAlg = Node.seq(alg, Node.nul())));
        Node bad = Node.utc("20010100000Z");
        listAt("its second TIME", bad, changedList(m -> m.last = bad));
        Node none = Node.seq();
        listBehind("no ENTRIES", none, changedList(m -> m.more.add(none)));
        Node hollow = Node.seq();
        listBehind("an empty ENTRY", hollow, changedList(m -> m.entries.add(hollow)));
        Node zero = Node.integer(0);
        Node time = Node.utc("200101000000Z");
        listAt("serial 0", zero, changedList(m -> m.entries.add(Node.seq(zero, time))));
        Node longOne = Node.integer(BigInteger.ONE.shiftLeft(159));
        listAt("a long serial", longOne, changedList(m -> m.entries.add(Node.seq(longOne, time))));
        Node noTime = Node.seq(Node.integer(1));
        listBehind("no TIME", noTime, changedList(m -> m.entries.add(noTime)));
        Node noExtensions = Node.seq();
        listBehind("no EXTENSIONS of an ENTRY", noExtensions,
            changedList(m -> m.entries.add(Node.seq(Node.integer(1), time, noExtensions))));
        Node extra = Node.nul();
        listAt("more in an ENTRY", extra, changedList(m -> m.entries.add(Node.seq(Node.integer(1), time, extra))));
        for (Node reason : new Node[] {Node.octets(0x0A, 7), Node.octets(0x0A, 11), Node.octets(0x0A, 255),
            Node.octets(0x0A), Node.octets(0x0A, 0, 1), Node.integer(1)}) {
            listAt("a reason", reason, changedList(m -> m.entries.add(Maker.entry(1, Maker.extension(21, false, reason)))));
        }
        Node again = Maker.extension("1.2.3", false, Node.raw());
        listAt("an OID twice in an ENTRY", again,
            changedList(m -> m.entries.add(Maker.entry(1, Maker.extension("1.2.3", false, Node.raw()), again))));
        for (Node number : new Node[] {Node.integer(-1), Node.integer(-128), Node.integer(BigInteger.ONE.shiftLeft(159)), Node.octets(0x02),
            Node.octets(0x02, 0, 1), Node.octets(0x0A, 1)}) {
            listAt("the number", number, changedList(m -> m.with(Maker.extension(20, false, number))));
        }
        Node key = Node.octets(0x80);
        listAt("ISSUER'S KEY", key, changedList(m -> m.with(Maker.extension(35, false, Node.seq(key)))));
        Node tail = Node.seq(Maker.entry(1));
        listAt("ENTRIES behind A0", tail,
            changedList(m -> m.with(Maker.extension(20, false, Node.integer(1))).more.add(tail)));
        Node wrongTag = Node.of(0xA3, Node.seq(Maker.issuerKey(1)));
        listAt("A3 in a list", wrongTag, changedList(m -> m.more.add(wrongTag)));
        Node empty = Node.seq();
        listBehind("no EXTENSIONS", empty, changedList(m -> m.more.add(Node.of(0xA0, empty))));
        Node unused = Node.octets(0x03, 1, 2);
        listAt("signature", unused, changedList(m -> m.signature = unused));
        Node behind = Node.raw(0);
        Maker maker = plainList();
        byte[] text = maker.list();
        byte[] longer = java.util.Arrays.copyOf(text, text.length + 3);
        CHECK.same("behind the whole", wrongOf(longer, true), text.length);
        listAt("behind the signature", behind, changedList(m -> m.behind.add(behind)));
    }
}
