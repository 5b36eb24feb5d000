import java.util.Arrays;
import java.util.function.Consumer;
import java.util.function.Function;

/** Terms 1: WRONG is the PLACE of the first ELEMENT that can not stand, of the innermost one, or where one is missing. */
public final class T1WrongTest {
    private static final Check CHECK = new Check();
    private static final Reading READING = new Reading(CHECK);

    public static void main(String[] args) {
        firstOfTwo();
        firstOfTwoInAList();
        innermost();
        saidOfItBehindWhatIsIn();
        lengthBeforeWhatIsIn();
        missingWhereTheOneAroundEnds();
        missingInAList();
        behindTheWhole();
        behindTheWholeComesLast();
        cutAnywhere();
        CHECK.end();
    }

    /** Each puts something that can not stand into a text, and tells it; in the order of their PLACES. */
    private static Function<Maker, Node> breaks(int which) {
        switch (which) {
            case 0:
                return m -> put(Node.integer(3), bad -> m.version = Node.of(0xA0, bad));
            case 1:
                return m -> put(Node.integer(0), bad -> m.serial = bad);
            case 2:
                return m -> put(Node.oid("1.2.3"), bad -> m.innerAlg = Node.seq(bad, Node.nul()));
            case 3:
                return m -> put(Node.text(0x13, "@"), bad -> m.issuer = Node.seq(Maker.part("2.5.4.3", bad)));
            case 4:
                return m -> put(Node.utc("x"), bad -> m.times = Node.seq(bad, m.last));
            case 5:
                return m -> put(Node.nul(), bad -> m.subject = Node.seq(bad));
            case 6:
                return m -> put(Node.integer(4), bad -> m.publicKey = Reading.publicKey(bad, Node.integer(3)));
            case 7:
                return m -> put(Node.octets(0x82), bad -> m.with(Maker.names(Maker.dns("a"), bad)));
            case 8:
                return m -> put(Node.nul(), bad -> m.more.add(bad));
            case 9:
                return m -> put(Node.oid("1.2.840.113549.1.1.12"), bad -> m.outerAlg = Node.seq(bad, Node.nul()));
            case 10:
                return m -> put(Node.octets(0x03, 1, 2), bad -> m.signature = bad);
            default:
                return m -> put(Node.nul(), bad -> m.behind.add(bad));
        }
    }

    private static Node put(Node bad, Consumer<Node> into) {
        into.accept(bad);
        return bad;
    }

    private static void firstOfTwo() {
        for (int one = 0; one < 12; one++) {
            for (int two = one; two < 12; two++) {
                Maker maker = Reading.certificate();
                if (two > one) {
                    breaks(two).apply(maker);
                }
                Node due = breaks(one).apply(maker);
                READING.at("the first of " + one + " and " + two, due, maker);
            }
        }
    }

    private static Function<Maker, Node> listBreaks(int which) {
        switch (which) {
            case 0:
                return m -> put(Node.integer(2), bad -> m.version = bad);
            case 1:
                return m -> put(Node.octets(5, 0), bad -> m.innerAlg = Node.seq(Node.oid("1.2.840.113549.1.1.11"), bad));
            case 2:
                return m -> put(Node.seq(), bad -> m.issuer = bad);
            case 3:
                return m -> put(Node.utc(""), bad -> m.first = bad);
            case 4:
                return m -> put(Node.nul(), bad -> m.last = bad);
            case 5:
                return m -> put(Node.integer(-1), bad -> m.entries.add(Node.seq(bad, Node.utc("210101000000Z"))));
            case 6:
                return m -> put(Node.octets(2, 0, 1), bad -> m.with(Maker.extension(20, false, bad)));
            case 7:
                return m -> put(Node.nul(), bad -> m.more.add(bad));
            case 8:
                return m -> put(Node.set(), bad -> m.outerAlg = bad);
            case 9:
                return m -> put(Node.octets(4, 0), bad -> m.signature = bad);
            default:
                return m -> put(Node.seq(), bad -> m.behind.add(bad));
        }
    }

    private static void firstOfTwoInAList() {
        for (int one = 0; one < 11; one++) {
            for (int two = one; two < 11; two++) {
                Maker maker = Reading.list();
                if (two > one) {
                    listBreaks(two).apply(maker);
                }
                Node due = listBreaks(one).apply(maker);
                READING.at("in a LIST the first of " + one + " and " + two, due, maker);
            }
        }
    }

    /** Not the SEQ, SET, A4 or OCTETS around it. */
    private static void innermost() {
        Node deep = Node.octets(0x0C, 0xFF);
        Node name = Node.seq(Node.set(Node.seq(Node.oid("2.5.4.3"), deep)));
        READING.at("in a directory name", deep, Reading.certificate().with(Maker.names(Node.of(0xA4, name))));
        Node inTree = Node.octets(0x0C, 0xFF);
        Node treeName = Node.seq(Node.set(Node.seq(Node.oid("2.5.4.3"), inTree)));
        READING.at("in a tree", inTree, Reading.certificate().with(
            Maker.constraints(Maker.trees(0xA0, Maker.directory(treeName)))));
        Node reason = Node.octets(0x0A, 7);
        Maker list = Reading.list();
        list.entries.add(Maker.entry(1, Maker.extension(21, true, reason)));
        READING.at("in an ENTRY", reason, list);
    }

    /** An OID twice is said of the EXTENSION, no PARTS of the NAME: both come behind what is WRONG within. */
    private static void saidOfItBehindWhatIsIn() {
        Node twice = Maker.extension(14, false, Node.octets(4, 1));
        READING.at("an OID twice", twice, Reading.certificate().with(Maker.ownKey(1), twice));
        Node empty = Node.octets(4);
        READING.at("an OID twice, WRONG within", empty,
            Reading.certificate().with(Maker.ownKey(1), Maker.extension(14, false, empty)));
        Node more = Node.nul();
        Node longer = Node.seq(Node.oid("2.5.29.14"), Node.octetString(Node.octets(4, 1)), more);
        READING.at("an OID twice, one more within", more, Reading.certificate().with(Maker.ownKey(1), longer));
        Node none = Node.seq(Node.oid("2.5.29.14"));
        READING.behind("an OID twice, no OCTETS", none, Reading.certificate().with(Maker.ownKey(1), none));
        Node later = Maker.extension(14, false, Node.octets(4, 1));
        READING.at("an OID twice before one that is WRONG", later,
            Reading.certificate().with(Maker.ownKey(1), later, Maker.extension(15, false, Node.nul())));
    }

    /** A length that can not be is seen at the ELEMENT itself, before all that is in it. */
    private static void lengthBeforeWhatIsIn() {
        Node inside = Node.nul();
        Node times = Node.seq(inside).stretched(2000);
        Maker maker = Reading.certificate();
        maker.times = times;
        READING.at("beyond, with what is WRONG in it", times, maker);
        Node serial = Node.integer(0);
        Node body = Node.odd(new int[] {0x30, 0x82, 0, 8}, Node.of(0xA0, Node.integer(2)), serial);
        byte[] text = Node.seq(body, Maker.alg(11), Node.bits(0)).write();
        READING.read("a length of another form, with what is WRONG in it", text, false, body.place);
    }

    private static void missing(String what, Node around, Function<Node, Maker> put) {
        for (int left = around.kids.size() - 1; left >= 0; left--) {
            around.kids.remove(left);
            READING.behind("just " + left + " in " + what, around, put.apply(around));
        }
    }

    private static Maker changed(Consumer<Maker> change) {
        Maker maker = Reading.certificate();
        change.accept(maker);
        return maker;
    }

    private static void missingWhereTheOneAroundEnds() {
        missing("A0", Node.of(0xA0, Node.integer(2)), one -> changed(m -> m.version = one));
        missing("ALG", Maker.alg(11), one -> changed(m -> m.innerAlg = one));
        missing("the last ALG", Maker.alg(11), one -> changed(m -> m.outerAlg = one));
        missing("a PART", Node.set(Node.seq(Node.oid("2.5.4.3"), Node.text(0x13, "a"))),
            one -> changed(m -> m.subject = Node.seq(one)));
        missing("the SEQ of a PART", Node.seq(Node.oid("2.5.4.3"), Node.text(0x13, "a")),
            one -> changed(m -> m.subject = Node.seq(Node.set(one))));
        missing("the TIMES", Node.seq(Node.utc("210101000000Z"), Node.utc("220101000000Z")),
            one -> changed(m -> m.times = one));
        missing("what tells the key", Node.seq(Maker.alg(1), Node.bits(0, Key.small(1).node())),
            one -> changed(m -> m.publicKey = one));
        missing("the KEY", Key.small(1).node(),
            one -> changed(m -> m.publicKey = Node.seq(Maker.alg(1), Node.bits(0, one))));
        missing("the BIT STRING of the KEY", Node.bits(0, Key.small(1).node()),
            one -> changed(m -> m.publicKey = Node.seq(Maker.alg(1), one)));
        missing("A3", Node.of(0xA3, Node.seq(Maker.ca())), one -> changed(m -> m.more.add(one)));
        missing("EXTENSIONS", Node.seq(Maker.ca()), one -> changed(m -> m.more.add(Node.of(0xA3, one))));
        missing("an EXTENSION", Node.seq(Node.oid("1.2.3"), Node.octetString()), one -> changed(m -> m.with(one)));
        missing("the OCTETS", Node.octetString(Node.octets(4, 1)),
            one -> changed(m -> m.with(Node.seq(Node.oid("2.5.29.14"), one))));
        missing("NAMES", Node.seq(Maker.dns("a")), one -> changed(m -> m.with(Maker.extension(17, false, one))));
        missing("a directory name", Node.of(0xA4, Maker.name("a")), one -> changed(m -> m.with(Maker.names(one))));
        missing("CONSTRAINTS", Node.seq(Maker.trees(0xA1, Maker.dns("a"))),
            one -> changed(m -> m.with(Maker.extension(30, true, one))));
        missing("TREES", Maker.trees(0xA0, Maker.dns("a")), one -> changed(m -> m.with(Maker.constraints(one))));
        missing("a tree", Node.seq(Maker.dns("a")),
            one -> changed(m -> m.with(Maker.constraints(Node.of(0xA1, one)))));
        missing("ISSUER'S KEY", Node.seq(Node.octets(0x80, 1)),
            one -> changed(m -> m.with(Maker.extension(35, false, one))));
        missingIn("TBS", Reading.certificate(), false);
        missingIn("the whole", Reading.certificate(), true);
    }

    /** Of TBS (TBL) and of the whole; what may be left out is not in them. */
    private static void missingIn(String what, Maker maker, boolean ofTheWhole) {
        maker.text();
        Node around = ofTheWhole ? maker.root : maker.body;
        for (int left = around.kids.size() - 1; left >= 0; left--) {
            around.kids.remove(left);
            byte[] text = maker.root.write();
            READING.read("just " + left + " in " + what, text, maker.isList, around.end);
        }
    }

    private static Maker changedList(Consumer<Maker> change) {
        Maker maker = Reading.list();
        change.accept(maker);
        return maker;
    }

    private static void missingInAList() {
        missing("ENTRIES", Node.seq(Maker.entry(1)), one -> changedList(m -> m.more.add(one)));
        missing("an ENTRY", Node.seq(Node.integer(1), Node.utc("210101000000Z")),
            one -> changedList(m -> m.entries.add(one)));
        missing("EXTENSIONS of an ENTRY", Node.seq(Maker.extension("1.2.3", false, Node.raw())), one -> changedList(
            m -> m.entries.add(Node.seq(Node.integer(1), Node.utc("210101000000Z"), one))));
        missing("A0 of a LIST", Node.of(0xA0, Node.seq(Maker.issuerKey(1))), one -> changedList(m -> m.more.add(one)));
        missing("EXTENSIONS of a LIST", Node.seq(Maker.issuerKey(1)),
            one -> changedList(m -> m.more.add(Node.of(0xA0, one))));
        missing("ISSUER'S KEY of a LIST", Node.seq(Node.octets(0x80, 1)),
            one -> changedList(m -> m.with(Maker.extension(35, false, one))));
        missing("the OCTETS of a LIST", Node.octetString(Node.integer(1)),
            one -> changedList(m -> m.with(Node.seq(Node.oid("2.5.29.20"), one))));
        missing("the OCTETS of an ENTRY", Node.octetString(Node.octets(0x0A, 1)), one -> changedList(
            m -> m.entries.add(Maker.entry(1, Node.seq(Node.oid("2.5.29.21"), one)))));
        missingIn("TBL", Reading.list(), false);
        missingIn("the whole LIST", Reading.list(), true);
    }

    private static void behindTheWhole() {
        for (boolean list : new boolean[] {false, true}) {
            byte[] text = list ? Reading.list().text() : Reading.certificate().text();
            READING.read("the whole alone", text, list, -1);
            for (int more : new int[] {1, 2, 3, 100}) {
                byte[] longer = Arrays.copyOf(text, text.length + more);
                READING.read("octets behind the whole: " + more, longer, list, text.length);
                longer[text.length] = 0x30;
                READING.read("a SEQ behind the whole: " + more, longer, list, text.length);
            }
        }
    }

    private static void behindTheWholeComesLast() {
        for (int which = 0; which < 12; which++) {
            Maker maker = Reading.certificate();
            Node due = breaks(which).apply(maker);
            byte[] text = maker.text();
            READING.read("octets behind what is WRONG", Arrays.copyOf(text, text.length + 5), false, due.place);
        }
    }

    /** Of a text that is cut off the first ELEMENT goes beyond what there is. */
    private static void cutAnywhere() {
        for (boolean list : new boolean[] {false, true}) {
            byte[] text = list ? Reading.list().text() : Reading.certificate().text();
            for (int size = 0; size < text.length; size++) {
                READING.read("cut to " + size, Arrays.copyOf(text, size), list, 0);
            }
        }
    }
}
