import java.util.ArrayList;
import java.util.List;

/** Makes certificates and lists; every field may be put in another's place before it is written. */
final class Maker {
    static final long NOON_2020 = 1577880000L;

    Node version = Node.of(0xA0, Node.integer(2));
    Node serial = Node.integer(1);
    Node innerAlg = alg(11);
    Node issuer = name("root");
    Node first = Node.utc("200101000000Z");
    Node last = Node.utc("291231235959Z");
    Node times;
    Node subject = name("leaf");
    Node publicKey;
    final List<Node> extensions = new ArrayList<>();
    final List<Node> entries = new ArrayList<>();
    final List<Node> more = new ArrayList<>();
    Node outerAlg = alg(11);
    Node signature;
    Node body;
    Node root;
    final List<Node> behind = new ArrayList<>();
    final boolean isList;
    private final Key signer;

    static Node alg(int last) {
        return Node.seq(Node.oid("1.2.840.113549.1.1." + last), Node.nul());
    }

    static Node part(String oid, Node string) {
        return Node.set(Node.seq(Node.oid(oid), string));
    }

    static Node name(String... parts) {
        Node name = Node.seq();
        for (String one : parts) {
            name.kids.add(part("2.5.4.3", Node.text(0x0C, one)));
        }
        return name;
    }

    static Node extension(int kind, boolean critical, Node inside) {
        return extension("2.5.29." + kind, critical, inside);
    }

    static Node extension(String oid, boolean critical, Node inside) {
        Node octets = Node.octetString(inside);
        return critical ? Node.seq(Node.oid(oid), Node.bool(255), octets) : Node.seq(Node.oid(oid), octets);
    }

    static Node entry(long serial, Node... extensions) {
        Node entry = Node.seq(Node.integer(serial), Node.utc("200101000000Z"));
        if (extensions.length > 0) {
            entry.kids.add(Node.seq(extensions));
        }
        return entry;
    }

    static Node ca() {
        return extension(19, true, Node.seq(Node.bool(255)));
    }

    static Node ca(int length) {
        return extension(19, true, Node.seq(Node.bool(255), Node.integer(length)));
    }

    static Node usage(int... octets) {
        return extension(15, true, Node.octets(0x03, octets));
    }

    static Node dns(String name) {
        return Node.text(0x82, name);
    }

    static Node directory(Node name) {
        return Node.of(0xA4, name);
    }

    static Node names(Node... names) {
        return extension(17, false, Node.seq(names));
    }

    static Node ownKey(int... octets) {
        return extension(14, false, Node.octets(0x04, octets));
    }

    static Node issuerKey(int... octets) {
        return extension(35, false, Node.seq(Node.octets(0x80, octets)));
    }

    static Node trees(int tag, Node... bases) {
        Node trees = Node.of(tag);
        for (Node base : bases) {
            trees.kids.add(Node.seq(base));
        }
        return trees;
    }

    static Node constraints(Node... trees) {
        return extension(30, true, Node.seq(trees));
    }

    Maker(String subject, Key own, String issuer, Key signer) {
        this.subject = name(subject);
        this.issuer = name(issuer);
        this.signer = signer;
        this.isList = false;
        this.publicKey = Node.seq(alg(1), Node.bits(0, own.node()));
        this.times = Node.seq(first, last);
    }

    /** For a list. */
    Maker(String issuer, Key signer) {
        this.issuer = name(issuer);
        this.signer = signer;
        this.isList = true;
        this.version = Node.integer(1);
    }

    Maker serial(long number) {
        serial = Node.integer(number);
        return this;
    }

    Maker with(Node... some) {
        extensions.addAll(List.of(some));
        return this;
    }

    Maker revoking(long... serials) {
        for (long one : serials) {
            entries.add(entry(one));
        }
        return this;
    }

    Maker from(String firstTime, String lastTime) {
        first = Node.utc(firstTime);
        last = Node.utc(lastTime);
        times = Node.seq(first, last);
        return this;
    }

    byte[] text() {
        return isList ? list() : certificate();
    }

    byte[] certificate() {
        body = Node.seq(version, serial, innerAlg, issuer, times, subject, publicKey);
        if (!extensions.isEmpty()) {
            body.kids.add(Node.of(0xA3, Node.seq(extensions.toArray(new Node[0]))));
        }
        return whole();
    }

    byte[] list() {
        body = Node.seq(version, innerAlg, issuer, first, last);
        if (!entries.isEmpty()) {
            body.kids.add(Node.seq(entries.toArray(new Node[0])));
        }
        if (!extensions.isEmpty()) {
            body.kids.add(Node.of(0xA0, Node.seq(extensions.toArray(new Node[0]))));
        }
        return whole();
    }

    private byte[] whole() {
        body.kids.addAll(more);
        if (signature == null) {
            signature = Node.bits(0, Node.raw(unsigned(signer.sign(body.write()))));
        }
        root = Node.seq(body, outerAlg, signature);
        root.kids.addAll(behind);
        return root.write();
    }

    static int[] unsigned(byte[] octets) {
        int[] result = new int[octets.length];
        for (int i = 0; i < octets.length; i++) {
            result[i] = octets[i] & 255;
        }
        return result;
    }
}
