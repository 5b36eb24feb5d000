import java.math.BigInteger;
import java.util.ArrayList;
import java.util.List;

/** Terms 4: the FAULT of a CHAIN, KNOWN and REVOKED, each sentence on its edges. */
public final class T4FaultTest {
    private static final Key ROOT = Key.small(1);
    private static final Key MIDDLE = Key.small(2);
    private static final Key LEAF = Key.small(3);
    private static final long NOON = Maker.NOON_2020;
    private static final Check CHECK = new Check();

    public static void main(String[] args) {
        timeOfEach();
        timeOfTheLast();
        timeOfALists();
        serialOfAnEntry();
        entriesOfEveryList();
        whoSignedTheList();
        knownIfWanted();
        usageOfWhoSignedTheList();
        usageOfAnIssuer();
        mattersOfEach();
        basicWithCa();
        lengthOfEach();
        lengthAndTheSameNames();
        lengthUpTo255();
        CHECK.end();
    }

    private static Maker root() {
        return new Maker("root", ROOT, "root", ROOT).with(Maker.ca());
    }

    private static Maker middle() {
        return new Maker("middle", MIDDLE, "root", ROOT).with(Maker.ca());
    }

    private static Maker leaf() {
        return new Maker("leaf", LEAF, "middle", MIDDLE);
    }

    private static Store store(Maker leaf, Maker middle, Maker root) {
        Store store = new Store();
        store.certificate(leaf);
        store.certificate(middle);
        store.trusted(root);
        return store;
    }

    private static void fault(String what, Store store, long time, boolean known, int due, int place) {
        CHECK.same(what, store.x.validate(0, time, 16, known), due);
        CHECK.same("count(3) of " + what, store.x.count(3), place);
    }

    /** 2: before its first TIME, behind its second one; at both it may be. */
    private static void timeOfEach() {
        long first = NOON;
        long last = NOON + 3600;
        for (int which = 0; which < 2; which++) {
            Maker leaf = leaf();
            Maker middle = middle();
            (which == 0 ? leaf : middle).from("200101120000Z", "200101130000Z");
            Store store = store(leaf, middle, root());
            for (long time : new long[] {first - 1, first, first + 1, last - 1, last, last + 1}) {
                boolean inside = time >= first && time <= last;
                fault("time " + time, store, time, false, inside ? 0 : 2, inside ? -1 : which);
            }
            for (long time : new long[] {Long.MIN_VALUE, Long.MIN_VALUE + 1, -1, 0, 1, Long.MAX_VALUE - 1, Long.MAX_VALUE,
                first + (1L << 32), first - (1L << 32)}) {
                CHECK.same("time " + time, store.x.validate(0, time, 16, false), 2);
            }
        }
        Store moment = store(leaf().from("200101120000Z", "200101120000Z"), middle(), root());
        fault("just one second, before it", moment, NOON - 1, false, 2, 0);
        fault("just one second", moment, NOON, false, 0, -1);
        fault("just one second, behind it", moment, NOON + 1, false, 2, 0);
        Store never = store(leaf().from("200101120001Z", "200101120000Z"), middle(), root());
        fault("no second, at the first", never, NOON + 1, false, 2, 0);
        fault("no second, at the last", never, NOON, false, 2, 0);
    }

    private static void timeOfTheLast() {
        Store store = store(leaf(), middle(), root().from("180101000000Z", "190101000000Z"));
        fault("the TIMES of the TRUSTED one do not count", store, NOON, false, 0, -1);
    }

    /** Between its TIMES, these with them. */
    private static void timeOfALists() {
        Store store = store(leaf(), middle(), root());
        store.list(new Maker("root", ROOT));
        store.list(new Maker("middle", MIDDLE).revoking(1).from("200101120000Z", "200101130000Z"));
        long first = NOON;
        long last = NOON + 3600;
        for (long time : new long[] {first - 1, first, first + 1, last - 1, last, last + 1}) {
            boolean counts = time >= first && time <= last;
            fault("a LIST at " + time, store, time, true, counts ? 3 : 4, 0);
            fault("a LIST at " + time + ", not wanted", store, time, false, counts ? 3 : 0, counts ? 0 : -1);
        }
    }

    /** SERIALS just beside one another, of one octet to twenty. */
    private static void serialOfAnEntry() {
        BigInteger one = BigInteger.ONE;
        List<BigInteger> serials = new ArrayList<>();
        for (int bits : new int[] {1, 7, 8, 9, 16, 64, 152, 158}) {
            BigInteger power = one.shiftLeft(bits);
            serials.add(power.subtract(one));
            serials.add(power);
            serials.add(power.add(one));
        }
        serials.add(one.shiftLeft(159).subtract(one));
        List<byte[]> lists = new ArrayList<>();
        for (BigInteger serial : serials) {
            Maker list = new Maker("root", ROOT);
            list.entries.add(Node.seq(Node.integer(serial), Node.utc("200101000000Z")));
            lists.add(list.text());
        }
        byte[] top = root().text();
        for (int own = 0; own < serials.size(); own++) {
            Maker target = new Maker("leaf", LEAF, "root", ROOT);
            target.serial = Node.integer(serials.get(own));
            byte[] text = target.text();
            for (int other = 0; other < serials.size(); other++) {
                Store store = new Store();
                store.certificate(text, false);
                store.certificate(top, true);
                store.list(lists.get(other));
                boolean revoked = serials.get(own).equals(serials.get(other));
                fault("SERIAL " + serials.get(own) + " with an ENTRY " + serials.get(other), store, NOON, true,
                    revoked ? 3 : 0, revoked ? 0 : -1);
            }
        }
    }

    /** The ENTRY may be any one of any LIST that counts: the first, the last, in between; none is no ENTRY. */
    private static void entriesOfEveryList() {
        for (int lists = 0; lists <= 8; lists++) {
            for (int revoking = -1; revoking < lists; revoking++) {
                Store store = new Store();
                store.certificate(new Maker("leaf", LEAF, "root", ROOT).serial(7));
                store.trusted(root());
                for (int l = 0; l < lists; l++) {
                    store.list(l == revoking ? new Maker("root", ROOT).revoking(7) : new Maker("root", ROOT));
                }
                int due = revoking >= 0 ? 3 : lists == 0 ? 4 : 0;
                fault("LISTS " + lists, store, NOON, true, due, due == 0 ? -1 : 0);
            }
        }
        for (int at = 0; at < 5; at++) {
            long[] serials = {1, 2, 3, 4, 5};
            serials[at] = 7;
            Store store = new Store();
            store.certificate(new Maker("leaf", LEAF, "root", ROOT).serial(7));
            store.trusted(root());
            store.list(new Maker("root", ROOT).revoking(serials));
            fault("ENTRY " + at, store, NOON, false, 3, 0);
        }
    }

    /** The NAME is the ISSUER, and c(i + 1) of this CHAIN signed it: both, or it does not count. */
    private static void whoSignedTheList() {
        Key[] keys = {ROOT, MIDDLE, LEAF};
        String[] names = {"root", "middle", "leaf"};
        for (int name = 0; name < 3; name++) {
            for (int key = 0; key < 3; key++) {
                Store store = store(leaf().serial(7), middle().serial(7), root());
                store.list(new Maker(names[name], keys[key]).revoking(7));
                boolean ofMiddle = name == 0 && key == 0;
                boolean ofLeaf = name == 1 && key == 1;
                int due = ofMiddle || ofLeaf ? 3 : 0;
                fault("a LIST of " + names[name], store, NOON, false, due, ofMiddle ? 1 : ofLeaf ? 0 : -1);
                fault("a LIST of " + names[name] + ", wanted", store, NOON, true, ofMiddle ? 3 : 4, 1);
            }
        }
    }

    private static void knownIfWanted() {
        for (int which = 0; which < 4; which++) {
            Store store = store(leaf(), middle(), root());
            if ((which & 1) != 0) {
                store.list(new Maker("middle", MIDDLE));
            }
            if ((which & 2) != 0) {
                store.list(new Maker("root", ROOT));
            }
            fault("not wanted", store, NOON, false, 0, -1);
            fault("wanted", store, NOON, true, which == 3 ? 0 : 4, which == 3 ? -1 : which == 2 ? 0 : 1);
        }
        Store alone = new Store();
        alone.trusted(root());
        fault("wanted of a TRUSTED target", alone, NOON, true, 0, -1);
    }

    /** The octets of a USAGE with just one bit of sixteen. */
    private static Node usage(int bit) {
        int octet = 128 >> bit % 8;
        return bit < 8 ? Maker.usage(7 - bit, octet) : Maker.usage(15 - bit, 0, octet);
    }

    private static void usageOfWhoSignedTheList() {
        for (int bit = -1; bit < 16; bit++) {
            Maker top = root();
            if (bit >= 0) {
                top.with(usage(bit));
            }
            Store store = new Store();
            store.certificate(new Maker("leaf", LEAF, "root", ROOT).serial(7));
            store.trusted(top);
            store.list(new Maker("root", ROOT).revoking(7));
            boolean counts = bit < 0 || bit == 6;
            fault("a LIST, USAGE bit " + bit, store, NOON, true, counts ? 3 : 4, 0);
        }
    }

    private static void usageOfAnIssuer() {
        for (int bit = -1; bit < 16; bit++) {
            Maker middle = middle();
            Maker leaf = leaf();
            Maker root = root();
            if (bit >= 0) {
                middle.with(usage(bit));
                leaf.with(usage(bit));
                root.with(usage(bit));
            }
            boolean stands = bit < 0 || bit == 5;
            fault("USAGE bit " + bit, store(leaf, middle, root), NOON, false, stands ? 0 : 9, stands ? -1 : 1);
        }
    }

    private static void mattersOfEach() {
        for (int which = 0; which < 3; which++) {
            for (int matters = 0; matters < 3; matters++) {
                Maker[] makers = {leaf(), middle(), root()};
                for (int n = 0; n < matters; n++) {
                    makers[which].with(Maker.extension("1.2." + n, true, Node.raw()));
                }
                makers[which].with(Maker.extension("1.2.9", false, Node.raw()));
                boolean stands = matters == 0 || which == 2;
                fault("MATTERS " + matters, store(makers[0], makers[1], makers[2]), NOON, false, stands ? 0 : 6,
                    stands ? -1 : which);
            }
        }
    }

    private static void basicWithCa() {
        for (int kind = 0; kind < 3; kind++) {
            Maker[] makers = {new Maker("leaf", LEAF, "middle", MIDDLE), new Maker("middle", MIDDLE, "root", ROOT),
                new Maker("root", ROOT, "root", ROOT)};
            if (kind == 1) {
                makers[1].with(Maker.extension(19, true, Node.seq()));
            } else if (kind == 2) {
                makers[1].with(Maker.ca());
            }
            fault("BASIC " + kind, store(makers[0], makers[1], makers[2]), NOON, false, kind == 2 ? 0 : 7,
                kind == 2 ? -1 : 1);
        }
    }

    /** root, then so many below it, the last of them the target; the one of the top has LENGTH. */
    private static Store row(int below, int length, int sameNames) {
        Store store = new Store();
        String[] names = new String[below + 1];
        names[below] = "root";
        for (int i = below - 1; i >= 0; i--) {
            boolean same = (sameNames >> i & 1) == 1;
            names[i] = same ? names[i + 1] : "n" + i;
        }
        for (int i = 0; i < below; i++) {
            // A key of its own for each: so just one CHAIN can be without a FAULT where names are the same.
            Maker maker = new Maker(names[i], Key.small(20 + i), names[i + 1], Key.small(21 + i));
            maker.with(i == below - 1 ? Maker.ca(length) : Maker.ca());
            maker.with(Maker.ownKey(20 + i), Maker.issuerKey(21 + i));
            store.certificate(maker);
        }
        store.trusted(new Maker("root", Key.small(20 + below), "root", Key.small(20 + below)).with(Maker.ca(0),
            Maker.ownKey(20 + below)));
        return store;
    }

    /** 8: below how many stand between, this one with them; c0 is not looked at. */
    private static void lengthOfEach() {
        for (int below = 1; below <= 6; below++) {
            for (int length = 0; length <= 6; length++) {
                // The one of the top is below - 1; the first that is too far down is below - 2 - length.
                int place = below - 2 - length;
                boolean stands = place <= 0;
                fault("LENGTH " + length + ", below the root " + below, row(below, length, 0), NOON, false,
                    stands ? 0 : 8, stands ? -1 : place);
            }
        }
    }

    /** Those that have the same SUBJECT and ISSUER do not count, wherever they stand. */
    private static void lengthAndTheSameNames() {
        int below = 5;
        for (int same = 0; same < 1 << below - 1; same++) {
            for (int length = 0; length <= 4; length++) {
                int place = -1;
                int between = 0;
                for (int i = below - 2; i > 0 && place < 0; i--) {
                    between += (same >> i & 1) == 1 ? 0 : 1;
                    place = between > length ? i : -1;
                }
                fault("LENGTH " + length + ", the same " + same, row(below, length, same), NOON, false,
                    place < 0 ? 0 : 8, place);
            }
        }
    }

    private static void lengthUpTo255() {
        for (int length : new int[] {13, 14, 127, 128, 255}) {
            // Fifteen below the root: thirteen stand between the top one and the target.
            Store store = row(15, length, 0);
            fault("LENGTH " + length + " of fifteen", store, NOON, false, 0, -1);
        }
        fault("LENGTH 12 of fifteen", row(15, 12, 0), NOON, false, 8, 1);
    }
}
