import java.util.ArrayList;
import java.util.Arrays;
import java.util.Collections;
import java.util.List;
import java.util.Random;

/** Draws certificates and lists whose names, keys, times and trees often meet, and spoils some of them. */
final class Deck {
    private static final long[] TIMES = {1577836799L, 1577836800L, 1577879999L, 1577880000L, 1609459199L, 1609459200L,
        1893455999L, 1893456000L};
    private static final String[][] NAMES = {{"a"}, {"a", "b"}, {"a", "b", "c"}, {"d"}, {"d", "b"}, {"A"}};
    private static final String[] DNS = {"x.y", "w.x.y", "*.x.y", "X.Y", "v.w.x.y", "y", "wx.y", ".x.y", "x.y."};
    private static final String[] TREES = {"", "y", "x.y", "W.X.y", ".x.y", "z"};
    private static final int[] TAGS = {0x01, 0x02, 0x03, 0x04, 0x05, 0x06, 0x0A, 0x0C, 0x13, 0x16, 0x17, 0x18, 0x30, 0x31,
        0x80, 0x81, 0x82, 0x87, 0xA0, 0xA1, 0xA3, 0xA4};
    private static final int[] OCTETS = {0, 1, 2, 7, 8, 0x1F, 0x20, 0x21, 0x2A, 0x30, 0x55, 0x7E, 0x7F, 0x80, 0x81, 0x82, 0xC0,
        0xED, 0xF4, 0xFF};
    private final Random random;
    private final List<Integer> subjects = new ArrayList<>();

    Deck(long seed) {
        random = new Random(seed);
    }

    boolean chance(int percent) {
        return random.nextInt(100) < percent;
    }

    int below(int bound) {
        return random.nextInt(bound);
    }

    <T> T any(List<T> some) {
        return some.get(random.nextInt(some.size()));
    }

    String anyDns() {
        return DNS[below(DNS.length)];
    }

    long anyTime() {
        return chance(70) ? 1600000000L : TIMES[below(TIMES.length)];
    }

    private Node name() {
        return Maker.name(NAMES[below(NAMES.length)]);
    }

    /** The key of a name is mostly the same one, so that a name's papers are mostly signed by it. */
    private Key keyOf(int name) {
        return Key.small(chance(96) ? 1 + name % 3 : 1 + below(4));
    }

    Maker certificate(int names) {
        int subject = below(names);
        int issuer = subjects.isEmpty() ? subject : chance(90) ? any(subjects) : below(names);
        subjects.add(subject);
        Maker maker = new Maker("", keyOf(subject), "", keyOf(issuer)).serial(1 + below(5));
        maker.subject = chance(3) ? Node.seq() : Maker.name(NAMES[subject]);
        maker.issuer = Maker.name(NAMES[issuer]);
        if (chance(15)) {
            maker.from(chance(50) ? "200101120000Z" : "210101000000Z", chance(50) ? "201231235959Z" : "291231235959Z");
        }
        if (chance(88)) {
            maker.with(chance(60) ? Maker.ca() : Maker.ca(below(3)));
        }
        if (chance(25)) {
            maker.with(chance(80) ? Maker.usage(1, 6) : chance(50) ? Maker.usage(2, 4) : Maker.usage(1, 2));
        }
        if (chance(20)) {
            maker.with(Maker.ownKey(1 + below(2)));
        }
        if (chance(20)) {
            maker.with(Maker.issuerKey(1 + below(2)));
        }
        if (chance(35)) {
            maker.with(Maker.names(generalName(), generalName()));
        }
        if (chance(25)) {
            maker.with(constraints());
        }
        if (chance(10)) {
            maker.with(Maker.extension("1.2." + below(3), chance(30), Node.raw(below(256), below(256))));
        }
        Collections.shuffle(maker.extensions, random);
        return maker;
    }

    private Node generalName() {
        switch (below(6)) {
            case 0:
                return Maker.directory(chance(10) ? Node.seq() : name());
            case 1:
                return Node.octets(0x87, new byte[chance(50) ? 4 : 16]);
            case 2:
                return Node.text(0x81, "m@x.y");
            default:
                return Maker.dns(anyDns());
        }
    }

    private Node base() {
        if (chance(50)) {
            return Maker.dns(TREES[below(TREES.length)]);
        }
        return Maker.directory(chance(10) ? Node.seq() : name());
    }

    private Node constraints() {
        Node permitted = Maker.trees(0xA0, base(), base(), base());
        Node excluded = Maker.trees(0xA1, base());
        int which = below(3);
        return which == 0 ? Maker.constraints(permitted)
            : which == 1 ? Maker.constraints(excluded) : Maker.constraints(permitted, excluded);
    }

    Maker list(int names) {
        int issuer = below(names);
        Maker maker = new Maker("", keyOf(issuer));
        maker.issuer = Maker.name(NAMES[issuer]);
        if (chance(25)) {
            maker.from("200101120000Z", "201231235959Z");
        }
        for (int n = below(3); n > 0; n--) {
            boolean reason = chance(30);
            Node extension = reason ? Maker.extension(21, chance(50), Node.octets(0x0A, below(11)))
                : Maker.extension(24, chance(10), Node.raw(below(256)));
            maker.entries.add(chance(50) ? Maker.entry(1 + below(9)) : Maker.entry(1 + below(9), extension));
        }
        if (chance(20)) {
            maker.with(Maker.extension(20, chance(30), Node.integer(below(1000))));
        }
        if (chance(20)) {
            maker.with(Maker.issuerKey(1));
        }
        if (chance(10)) {
            maker.with(Maker.extension(28, chance(50), Node.raw()));
        }
        return maker;
    }

    /** The text with one to three things in it changed, the lengths around them mostly made to fit. */
    byte[] spoiled(Maker maker) {
        maker.text();
        for (int n = 1 + below(below(4) + 1); n > 0; n--) {
            spoil(any(maker.root.all()));
        }
        byte[] text = maker.root.write();
        if (chance(15)) {
            text[below(text.length)] = (byte) octet();
        }
        return chance(95) ? text : Arrays.copyOf(text, below(text.length + 5));
    }

    private int octet() {
        return chance(70) ? OCTETS[below(OCTETS.length)] : below(256);
    }

    private void spoil(Node node) {
        byte[] front = node.front();
        switch (below(8)) {
            case 0:
                node.retagged(TAGS[below(TAGS.length)]);
                break;
            case 1:
                node.stretched(below(5) - 2);
                break;
            case 2:
                node.refill(Arrays.copyOf(front, Math.max(0, front.length + (chance(50) ? -1 : 1))));
                break;
            case 3:
                spoilKids(node);
                break;
            case 4:
                node.kids.add(Node.octets(TAGS[below(TAGS.length)], new byte[below(3)]));
                break;
            default:
                byte[] changed = front.clone();
                if (changed.length > 0) {
                    changed[below(changed.length)] = (byte) octet();
                    node.refill(changed);
                } else {
                    spoilKids(node);
                }
        }
    }

    private void spoilKids(Node node) {
        if (node.kids.isEmpty()) {
            return;
        }
        int which = below(node.kids.size());
        switch (below(4)) {
            case 0:
                node.kids.remove(which);
                break;
            case 1:
                node.kids.add(below(node.kids.size() + 1), node.kids.get(which));
                break;
            case 2:
                Collections.swap(node.kids, which, below(node.kids.size()));
                break;
            default:
                node.kids.clear();
        }
    }
}
