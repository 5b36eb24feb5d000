import java.util.ArrayList;
import java.util.Arrays;
import java.util.List;
import java.util.Locale;

/** Terms 4: FAULT 5, a name that may not be: all short names against all short trees, and whose trees count for whom. */
public final class T4NameTest {
    private static final Key ROOT = Key.small(1);
    private static final Key MIDDLE = Key.small(2);
    private static final Key LEAF = Key.small(3);
    private static final long NOON = Maker.NOON_2020;
    private static final byte[] TOP = new Maker("root", ROOT, "root", ROOT).text();
    private static final Check CHECK = new Check();

    public static void main(String[] args) {
        dnsNames();
        lettersInEitherCase();
        directoryNames();
        subjectIfItHasParts();
        permittedOfOneKindAlone();
        eachNameAndEachTree();
        whoseTreesCountForWhom();
        allThatPermit();
        sameSubjectAndIssuer();
        CHECK.end();
    }

    private static byte[] leaf(Node subject, Node... names) {
        Maker maker = new Maker("leaf", LEAF, "middle", MIDDLE);
        maker.subject = subject;
        if (names.length > 0) {
            maker.with(Maker.names(names));
        }
        return maker.text();
    }

    private static byte[] middle(Node... trees) {
        return new Maker("middle", MIDDLE, "root", ROOT).with(Maker.ca(), Maker.constraints(trees)).text();
    }

    private static void names(String what, boolean may, byte[] leaf, byte[] middle) {
        Store store = new Store();
        store.certificate(leaf, false);
        store.certificate(middle, false);
        store.certificate(TOP, true);
        CHECK.same(what, store.x.validate(0, NOON, 3, false), may ? 0 : 5);
        CHECK.same("count(3) of " + what, store.x.count(3), may ? -1 : 0);
    }

    /** Texts of the signs up to a length, the empty one first. */
    private static List<String> texts(String signs, int longest) {
        List<String> all = new ArrayList<>(List.of(""));
        for (int from = 0, length = 1; length <= longest; length++) {
            int to = all.size();
            for (int i = from; i < to; i++) {
                for (char sign : signs.toCharArray()) {
                    all.add(all.get(i) + sign);
                }
            }
            from = to;
        }
        return all;
    }

    private static boolean isUnder(String name, String tree) {
        String low = name.toLowerCase(Locale.ROOT);
        String base = tree.toLowerCase(Locale.ROOT);
        return base.isEmpty() || low.equals(base) || low.endsWith("." + base);
    }

    /** One is its end, with a "." before that, or all of it, or empty. */
    private static void dnsNames() {
        List<String> all = texts("ab.", 3);
        List<byte[]> permitting = new ArrayList<>();
        List<byte[]> excluding = new ArrayList<>();
        for (String tree : all) {
            permitting.add(middle(Maker.trees(0xA0, Maker.dns(tree))));
            excluding.add(middle(Maker.trees(0xA1, Maker.dns(tree))));
        }
        for (String name : all.subList(1, all.size())) {
            byte[] leaf = leaf(Maker.name("leaf"), Maker.dns(name));
            for (int t = 0; t < all.size(); t++) {
                boolean under = isUnder(name, all.get(t));
                names(name + " permitted by " + all.get(t), under, leaf, permitting.get(t));
                names(name + " excluded by " + all.get(t), !under, leaf, excluding.get(t));
            }
        }
    }

    /** Letters alone: each visible octet beside the one that differs from it by 32. */
    private static void lettersInEitherCase() {
        for (int octet = 33; octet < 127; octet++) {
            int other = octet ^ 32;
            if (other < 33 || other > 126) {
                continue;
            }
            boolean letter = octet >= 'A' && octet <= 'Z' || octet >= 'a' && octet <= 'z';
            byte[] leaf = leaf(Maker.name("leaf"), Node.octets(0x82, 'x', '.', octet));
            names("octet " + octet, letter, leaf, middle(Maker.trees(0xA0, Node.octets(0x82, other))));
            names("octet " + octet + " itself", true, leaf, middle(Maker.trees(0xA0, Node.octets(0x82, octet))));
        }
    }

    private static List<String[]> partLists() {
        List<String[]> all = new ArrayList<>();
        for (String text : texts("ab", 3)) {
            all.add(text.isEmpty() ? new String[0] : text.split(""));
        }
        return all;
    }

    private static boolean begins(String[] name, String[] tree) {
        return tree.length <= name.length && Arrays.equals(tree, Arrays.copyOf(name, tree.length));
    }

    /** One of these is the beginning of it, PART by PART: of the SUBJECT, and of a directory name. */
    private static void directoryNames() {
        for (String[] tree : partLists()) {
            Node base = Maker.directory(Maker.name(tree));
            byte[] permitting = middle(Maker.trees(0xA0, base));
            byte[] excluding = middle(Maker.trees(0xA1, base));
            for (String[] name : partLists()) {
                boolean under = begins(name, tree);
                byte[] asName = leaf(Maker.name(), Maker.directory(Maker.name(name)));
                String what = Arrays.toString(name) + " and " + Arrays.toString(tree);
                names("a directory name, permitted: " + what, under, asName, permitting);
                names("a directory name, excluded: " + what, !under, asName, excluding);
                byte[] asSubject = leaf(Maker.name(name));
                names("SUBJECT, permitted: " + what, under || name.length == 0, asSubject, permitting);
                names("SUBJECT, excluded: " + what, !under || name.length == 0, asSubject, excluding);
            }
        }
        byte[] leaf = leaf(Maker.name("ab", "c"));
        names("a beginning within a PART", false, leaf, middle(Maker.trees(0xA0, Maker.directory(Maker.name("a")))));
        names("the case of a PART", false, leaf, middle(Maker.trees(0xA0, Maker.directory(Maker.name("AB")))));
        names("PARTS from the second on", false, leaf, middle(Maker.trees(0xA0, Maker.directory(Maker.name("c")))));
    }

    private static void subjectIfItHasParts() {
        Node none = Maker.directory(Maker.name());
        Node some = Maker.directory(Maker.name("x"));
        names("no PARTS, all excluded", true, leaf(Maker.name()), middle(Maker.trees(0xA1, none)));
        names("no PARTS, another permitted", true, leaf(Maker.name()), middle(Maker.trees(0xA0, some)));
        names("a PART, all excluded", false, leaf(Maker.name("a")), middle(Maker.trees(0xA1, none)));
        names("a PART, another permitted", false, leaf(Maker.name("a")), middle(Maker.trees(0xA0, some)));
        names("a PART, all permitted", true, leaf(Maker.name("a")), middle(Maker.trees(0xA0, none)));
    }

    /** If it permits directory names, DNS names are free, and the other way round; 81 and 87 are never looked at. */
    private static void permittedOfOneKindAlone() {
        byte[] directories = middle(Maker.trees(0xA0, Maker.directory(Maker.name("a"))));
        byte[] hosts = middle(Maker.trees(0xA0, Maker.dns("a")));
        names("DNS names are free", true, leaf(Maker.name("a"), Maker.dns("z")), directories);
        names("directory names are not", false, leaf(Maker.name("z"), Maker.dns("z")), directories);
        names("directory names are free", true, leaf(Maker.name("z"), Maker.directory(Maker.name("y")), Maker.dns("a")), hosts);
        names("DNS names are not", false, leaf(Maker.name("a"), Maker.dns("z")), hosts);
        byte[] others = leaf(Maker.name("a"), Node.text(0x81, "z"), Node.octets(0x87, 1, 2, 3, 4));
        names("81 and 87", true, others, hosts);
        names("81 and 87, all excluded", true, others, middle(Maker.trees(0xA1, Maker.dns(""))));
    }

    /** Each name is looked at; one tree of those permitted is enough, and one of those excluded is too much. */
    private static void eachNameAndEachTree() {
        for (int bad = 0; bad < 4; bad++) {
            Node[] hosts = new Node[4];
            Node[] directories = new Node[4];
            Node[] hostTrees = new Node[4];
            Node[] directoryTrees = new Node[4];
            for (int n = 0; n < 4; n++) {
                hosts[n] = Maker.dns("n" + n);
                directories[n] = Maker.directory(Maker.name("n" + n));
                hostTrees[n] = Maker.dns(n == bad ? "x" : "n" + n);
                directoryTrees[n] = Maker.directory(Maker.name(n == bad ? "x" : "n" + n));
            }
            names("one DNS name of four", false, leaf(Maker.name(), hosts), middle(Maker.trees(0xA0, hostTrees)));
            names("one directory name of four", false, leaf(Maker.name(), directories),
                middle(Maker.trees(0xA0, directoryTrees)));
            names("one tree of four permits", bad != 0, leaf(Maker.name(), hosts[0]), middle(Maker.trees(0xA0, hostTrees)));
            names("one tree of four excludes", false, leaf(Maker.name(), hosts[bad]), middle(Maker.trees(0xA1, hosts)));
            names("one directory tree of four excludes", false, leaf(Maker.name(), directories[bad]),
                middle(Maker.trees(0xA1, directories)));
            names("permitted and excluded", false, leaf(Maker.name(), hosts[bad]),
                middle(Maker.trees(0xA0, hosts), Maker.trees(0xA1, hosts[bad])));
            names("all permitted", true, leaf(Maker.name(), hosts), middle(Maker.trees(0xA0, hosts)));
        }
    }

    /** A row of five below the root: trees of c(j) count for c(i) if j is above i, and not those of the root. */
    private static void whoseTreesCountForWhom() {
        for (int trees = 0; trees <= 5; trees++) {
            for (int bad = 0; bad < 5; bad++) {
                Store store = new Store();
                for (int n = 0; n <= 5; n++) {
                    Maker maker = new Maker("n" + n, ROOT, "n" + (n + 1), ROOT).with(Maker.ca());
                    if (n == trees) {
                        maker.with(Maker.constraints(Maker.trees(0xA1, Maker.dns("bad"))));
                    }
                    if (n == bad) {
                        maker.with(Maker.names(Maker.dns("very.bad")));
                    }
                    store.certificate(maker.text(), n == 5);
                }
                boolean counts = trees > bad && trees < 5;
                CHECK.same("trees of " + trees + " for " + bad, store.x.validate(0, NOON, 6, false), counts ? 5 : 0);
                CHECK.same("count(3)", store.x.count(3), counts ? bad : -1);
            }
        }
    }

    /** Each of those above that permits must permit it. */
    private static void allThatPermit() {
        String[] trees = {"a", "b.a", "c.b.a"};
        for (String host : new String[] {"a", "x.a", "b.a", "x.b.a", "c.b.a", "x.c.b.a", "b"}) {
            Store store = new Store();
            store.certificate(new Maker("n0", ROOT, "n1", ROOT).with(Maker.names(Maker.dns(host))).text(), false);
            boolean may = true;
            for (int n = 1; n <= 3; n++) {
                Node tree = Maker.constraints(Maker.trees(0xA0, Maker.dns(trees[n % 3])));
                store.certificate(new Maker("n" + n, ROOT, "n" + (n + 1), ROOT).with(Maker.ca(), tree).text(), false);
                may &= isUnder(host, trees[n % 3]);
            }
            store.certificate(new Maker("n4", ROOT, "n4", ROOT).text(), true);
            CHECK.same(host, store.x.validate(0, NOON, 5, false), may ? 0 : 5);
        }
    }

    /** Not looked at if SUBJECT and ISSUER are the same, but of c0. */
    private static void sameSubjectAndIssuer() {
        for (int same = 0; same < 4; same++) {
            String low = (same & 1) == 1 ? "middle" : "low";
            String target = (same & 2) == 2 ? low : "leaf";
            Store store = new Store();
            store.certificate(new Maker(target, ROOT, low, LEAF).with(Maker.issuerKey(1)).text(), false);
            store.certificate(new Maker(low, LEAF, "middle", MIDDLE).with(Maker.ca(), Maker.ownKey(1), Maker.issuerKey(2),
                Maker.names(Maker.dns("bad"), Maker.directory(Maker.name("bad")))).text(), false);
            store.certificate(new Maker("middle", MIDDLE, "root", ROOT).with(Maker.ca(), Maker.ownKey(2), Maker.constraints(
                Maker.trees(0xA1, Maker.dns("bad"), Maker.directory(Maker.name("bad")), Maker.directory(Maker.name(target)))))
                .text(), false);
            store.certificate(TOP, true);
            boolean lowSame = (same & 1) == 1;
            CHECK.same("the same " + same, store.x.validate(0, NOON, 4, false), 5);
            CHECK.same("count(3) of the same " + same, store.x.count(3), lowSame ? 0 : 1);
        }
    }
}
