/** Promise 11: each FAULT, their order, the search, and what it refuses. */
public final class P11ValidateTest {
    private static final Key ROOT = Key.small(1);
    private static final Key MIDDLE = Key.small(2);
    private static final Key LEAF = Key.small(3);
    private static final Key OTHER = Key.small(4);
    private static final long NOON = Maker.NOON_2020;
    private static final Check CHECK = new Check();

    public static void main(String[] args) {
        ordinary();
        signatures();
        times();
        revocation();
        whatIsKnown();
        directoryNames();
        dnsNames();
        whereNamesAreNotLookedAt();
        issuerFaults();
        lengths();
        orderOfFaults();
        searches();
        thousand();
        refusals();
        CHECK.end();
    }

    private static Maker root() {
        return new Maker("root", ROOT, "root", ROOT).with(Maker.ca());
    }

    private static Maker middle() {
        return new Maker("middle", MIDDLE, "root", ROOT).with(Maker.ca()).serial(7);
    }

    private static Maker leaf() {
        return new Maker("leaf", LEAF, "middle", MIDDLE).serial(9);
    }

    private static Store three(Maker leaf, Maker middle, Maker root) {
        Store store = new Store();
        store.certificate(leaf);
        store.certificate(middle);
        store.trusted(root);
        return store;
    }

    private static void verdict(String what, Store store, int due, int place) {
        verdict(what, store, NOON, false, due, place);
    }

    private static void verdict(String what, Store store, long time, boolean known, int due, int place) {
        CHECK.same(what, store.x.validate(0, time, 16, known), due);
        CHECK.same("count(3) of " + what, store.x.count(3), place);
    }

    private static void ordinary() {
        Store store = three(leaf(), middle(), root());
        verdict("a chain of three", store, 0, -1);
        CHECK.same("depth 3", store.x.validate(0, NOON, 3, false), 0);
        CHECK.same("depth 2", store.x.validate(0, NOON, 2, false), 10);
        CHECK.same("depth 1", store.x.validate(0, NOON, 1, false), 10);
        CHECK.same("the root at any time, depth 1", store.x.validate(2, Long.MIN_VALUE, 1, true), 0);
        CHECK.same("the middle", store.x.validate(1, NOON, 2, false), 0);
        verdict("a bare root", three(leaf(), middle(), new Maker("root", ROOT, "nobody", OTHER)
            .from("500101000000Z", "500101000000Z").with(Maker.extension("1.2.3", true, Node.raw()),
                Maker.usage(7, 128))), 0, -1);
    }

    private static void signatures() {
        verdict("a leaf of another", three(new Maker("leaf", LEAF, "middle", OTHER), middle(), root()), 1, 0);
        Maker bad = new Maker("middle", MIDDLE, "root", OTHER).with(Maker.ca());
        verdict("a middle of another", three(leaf(), bad, root()), 1, 1);
        verdict("both: the middle is first", three(new Maker("leaf", LEAF, "middle", OTHER), bad, root()), 1, 1);
    }

    private static void times() {
        Store store = three(leaf().from("200101000000Z", "200101000010Z"), middle(), root());
        long first = 1577836800L;
        long[] times = {first - 1, first, first + 10, first + 11, Long.MIN_VALUE, Long.MAX_VALUE};
        int[] due = {2, 0, 0, 2, 2, 2};
        int[] places = {1, -1, -1, 0, 1, 1};
        for (int i = 0; i < times.length; i++) {
            verdict("at " + times[i], store, times[i], false, due[i], places[i]);
        }
        verdict("never", three(leaf().from("200102000000Z", "200101000000Z"), middle(), root()), 2, 0);
    }

    private static void revocation() {
        Store store = three(leaf(), middle(), root());
        store.list(new Maker("middle", MIDDLE).revoking(1, 8, 10));
        store.list(new Maker("root", ROOT).revoking(9));
        verdict("others revoked", store, NOON, true, 0, -1);
        store.list(new Maker("middle", MIDDLE).revoking(4, 9));
        verdict("the leaf revoked", store, NOON, false, 3, 0);
        verdict("the leaf revoked, known", store, NOON, true, 3, 0);
        store.list(new Maker("root", ROOT).revoking(7));
        verdict("the middle revoked", store, NOON, false, 3, 1);
        listThatDoesNotCount("of another name", new Maker("other", MIDDLE).revoking(9));
        listThatDoesNotCount("signed by another", new Maker("middle", ROOT).revoking(9));
        listThatDoesNotCount("too early", new Maker("middle", MIDDLE).revoking(9).from("200101120001Z", "290101000000Z"));
        listThatDoesNotCount("too late", new Maker("middle", MIDDLE).revoking(9).from("190101120001Z", "200101115959Z"));
        listThatDoesNotCount("a critical matter",
            new Maker("middle", MIDDLE).revoking(9).with(Maker.extension("1.2.3", true, Node.raw())));
        Maker inEntry = new Maker("middle", MIDDLE).revoking(9);
        inEntry.entries.add(Maker.entry(10, Maker.extension("1.2.3", true, Node.raw())));
        listThatDoesNotCount("a critical matter in an ENTRY", inEntry);
        Store edges = three(leaf(), middle(), root());
        edges.list(new Maker("middle", MIDDLE).revoking(9).from("200101120000Z", "200101120000Z"));
        verdict("a list just at the time", edges, 3, 0);
        Store harmless = three(leaf(), middle(), root());
        harmless.list(new Maker("middle", MIDDLE).revoking(9).with(Maker.extension("1.2.3", false, Node.raw()),
            Maker.extension(20, true, Node.integer(1))));
        verdict("a matter that is not critical", harmless, 3, 0);
    }

    private static void listThatDoesNotCount(String what, Maker list) {
        Store store = three(leaf(), middle(), root());
        store.list(list);
        verdict("a list " + what, store, 0, -1);
        store.list(new Maker("root", ROOT));
        verdict("known by a list " + what, store, NOON, true, 4, 0);
    }

    private static void whatIsKnown() {
        Store store = three(leaf(), middle(), root());
        verdict("nothing known", store, NOON, true, 4, 1);
        store.list(new Maker("root", ROOT));
        verdict("the middle known", store, NOON, true, 4, 0);
        store.list(new Maker("middle", MIDDLE));
        verdict("both known", store, NOON, true, 0, -1);
        for (int usage = 0; usage < 2; usage++) {
            Node bits = usage == 0 ? Maker.usage(2, 4) : Maker.usage(1, 6);
            Store other = three(leaf(), middle().with(bits), root());
            other.list(new Maker("middle", MIDDLE).revoking(9));
            verdict("USAGE of who signed the list", other, usage == 0 ? 0 : 3, usage == 0 ? -1 : 0);
        }
        Store bare = three(leaf(), middle(), new Maker("root", ROOT, "root", ROOT).with(Maker.usage(2, 4)));
        bare.list(new Maker("root", ROOT).revoking(7));
        verdict("USAGE of the root counts for lists", bare, 0, -1);
    }

    private static Maker named(String... parts) {
        Maker maker = leaf();
        maker.subject = Maker.name(parts);
        return maker;
    }

    private static Node dirs(int tag, String[]... names) {
        Node trees = Node.of(tag);
        for (String[] one : names) {
            trees.kids.add(Node.seq(Maker.directory(Maker.name(one))));
        }
        return trees;
    }

    private static String[] parts(String... parts) {
        return parts;
    }

    private static void constrained(String what, Maker leaf, int due, Node... trees) {
        verdict(what, three(leaf, middle().with(Maker.constraints(trees)), root()), due, due == 0 ? -1 : 0);
    }

    private static void directoryNames() {
        constrained("permitted", named("a", "b"), 0, dirs(0xA0, parts("a")));
        constrained("the very name permitted", named("a", "b"), 0, dirs(0xA0, parts("a", "b")));
        constrained("a longer one permitted", named("a"), 5, dirs(0xA0, parts("a", "b")));
        constrained("another permitted", named("a", "b"), 5, dirs(0xA0, parts("b")));
        constrained("one of two permitted", named("a", "b"), 0, dirs(0xA0, parts("b"), parts("a")));
        constrained("half a part permitted", named("ab"), 5, dirs(0xA0, parts("a")));
        constrained("all permitted", named("a"), 0, dirs(0xA0, parts()));
        constrained("excluded", named("a", "b"), 5, dirs(0xA1, parts("a")));
        constrained("another excluded", named("a", "b"), 0, dirs(0xA1, parts("b"), parts("a", "c"), parts("a", "b", "c")));
        constrained("all excluded", named("a"), 5, dirs(0xA1, parts()));
        constrained("permitted and excluded", named("a", "b"), 5, dirs(0xA0, parts("a")), dirs(0xA1, parts("a", "b")));
        constrained("the case counts", named("A"), 5, dirs(0xA0, parts("a")));
        constrained("an empty SUBJECT", named(), 0, dirs(0xA0, parts("a")), dirs(0xA1, parts()));
        Maker alias = named("a").with(Maker.names(Maker.directory(Maker.name("b", "c"))));
        constrained("a directory name", alias, 5, dirs(0xA0, parts("a")));
        Maker both = named("a").with(Maker.names(Maker.directory(Maker.name("b", "c"))));
        constrained("a directory name that may be", both, 0, dirs(0xA0, parts("a"), parts("b")));
        Maker excluded = named("a").with(Maker.names(Maker.directory(Maker.name("d")), Maker.directory(Maker.name("b"))));
        constrained("a directory name excluded", excluded, 5, dirs(0xA1, parts("b")));
        Maker empty = named().with(Maker.names(Maker.directory(Maker.name())));
        constrained("an empty directory name", empty, 5, dirs(0xA0, parts("a")));
        constrained("just DNS permitted", named("a"), 0, Maker.trees(0xA0, Maker.dns("x")));
        Maker printable = leaf();
        printable.subject = Node.seq(Maker.part("2.5.4.3", Node.text(0x13, "a")));
        constrained("another kind of string", printable, 5, dirs(0xA0, parts("a")));
    }

    private static void dns(String name, String tree, boolean under) {
        Maker one = leaf().with(Maker.names(Maker.dns(name)));
        constrained(name + " permitted by " + tree, one, under ? 0 : 5, Maker.trees(0xA0, Maker.dns(tree)));
        Maker two = leaf().with(Maker.names(Maker.dns("z"), Maker.dns(name)));
        constrained(name + " excluded by " + tree, two, under ? 5 : 0, Maker.trees(0xA1, Maker.dns(tree)));
    }

    private static void dnsNames() {
        dns("example.com", "example.com", true);
        dns("EXAMPLE.com", "example.COM", true);
        dns("www.example.com", "example.com", true);
        dns("a.b.example.com", "Example.com", true);
        dns("wwwexample.com", "example.com", false);
        dns("com", "example.com", false);
        dns("example.com.", "example.com", false);
        dns("www.example.com", ".example.com", false);
        dns("www..example.com", ".example.com", true);
        dns(".example.com", "example.com", true);
        dns("*.example.com", "example.com", true);
        dns("example.org", "com", false);
        dns("example.com", "com", true);
        dns("@com", "`com", false);
        dns("a[", "a{", false);
        constrained("an empty tree permits", leaf().with(Maker.names(Maker.dns("z"))), 0, Maker.trees(0xA0, Maker.dns("")));
        constrained("an empty tree excludes", leaf().with(Maker.names(Maker.dns("z"))), 5, Maker.trees(0xA1, Maker.dns("")));
        constrained("no DNS names", leaf(), 0, Maker.trees(0xA0, Maker.dns("a")), Maker.trees(0xA1, Maker.dns("")));
        constrained("mail is not looked at", leaf().with(Maker.names(Node.text(0x81, "z"))), 0,
            Maker.trees(0xA0, Maker.dns("a")));
        constrained("one of two trees", leaf().with(Maker.names(Maker.dns("b.c"))), 0,
            Maker.trees(0xA0, Maker.dns("a"), Maker.dns("c")));
        constrained("one name of two", leaf().with(Maker.names(Maker.dns("x.c"), Maker.dns("x.d"))), 5,
            Maker.trees(0xA0, Maker.dns("c")));
        constrained("just directory names permitted", leaf().with(Maker.names(Maker.dns("z"))), 0,
            dirs(0xA0, parts("leaf")));
    }

    private static void whereNamesAreNotLookedAt() {
        Node away = Maker.constraints(Maker.trees(0xA0, Maker.directory(Maker.name("elsewhere"))));
        verdict("of the root", three(leaf(), middle(), root().with(away)), 0, -1);
        verdict("its own", three(leaf().with(away), middle(), root()), 0, -1);
        Store four = new Store();
        four.certificate(new Maker("leaf", LEAF, "low", OTHER));
        four.certificate(new Maker("low", OTHER, "middle", MIDDLE).with(Maker.ca()));
        four.certificate(middle().with(Maker.constraints(Maker.trees(0xA0, Maker.directory(Maker.name("leaf"))))));
        four.trusted(root());
        verdict("of one in between", four, 5, 1);
        Store both = new Store();
        both.certificate(new Maker("leaf", LEAF, "low", OTHER));
        both.certificate(new Maker("low", OTHER, "middle", MIDDLE).with(Maker.ca()));
        both.certificate(middle().with(Maker.constraints(Maker.trees(0xA1, Maker.directory(Maker.name("leaf"))))));
        both.trusted(root());
        verdict("of one further up", both, 5, 0);
        Store again = new Store();
        again.certificate(new Maker("leaf", LEAF, "middle", OTHER));
        again.certificate(new Maker("middle", OTHER, "middle", MIDDLE).with(Maker.ca()));
        again.certificate(middle().with(Maker.constraints(Maker.trees(0xA0, Maker.directory(Maker.name("leaf"))))));
        again.trusted(root());
        verdict("self-issued in between", again, 0, -1);
        Store target = new Store();
        target.certificate(new Maker("middle", OTHER, "middle", MIDDLE));
        target.certificate(middle().with(Maker.constraints(Maker.trees(0xA1, Maker.directory(Maker.name("middle"))))));
        target.trusted(root());
        verdict("a self-issued target", target, 5, 0);
    }

    private static void issuerFaults() {
        Node strange = Maker.extension("1.2.3", true, Node.raw());
        verdict("a matter of the leaf", three(leaf().with(strange), middle(), root()), 6, 0);
        verdict("a matter of the middle", three(leaf(), middle().with(strange), root()), 6, 1);
        Maker noBasic = new Maker("middle", MIDDLE, "root", ROOT);
        verdict("no BASIC", three(leaf(), noBasic, root()), 7, 1);
        Maker noCa = new Maker("middle", MIDDLE, "root", ROOT).with(Maker.extension(19, true, Node.seq()));
        verdict("no CA", three(leaf(), noCa, root()), 7, 1);
        verdict("USAGE without bit 5", three(leaf(), middle().with(Maker.usage(1, 2)), root()), 9, 1);
        verdict("USAGE with bit 5", three(leaf(), middle().with(Maker.usage(2, 4)), root()), 0, -1);
        verdict("USAGE of the leaf", three(leaf().with(Maker.usage(7, 128)), middle(), root()), 0, -1);
    }

    /** root <- a (LENGTH) <- b <- c <- leaf, where b may be self-issued. */
    private static Store five(int length, boolean selfIssued) {
        String low = selfIssued ? "a" : "b";
        Store store = new Store();
        store.certificate(new Maker("leaf", LEAF, "c", ROOT));
        store.certificate(new Maker("c", ROOT, low, OTHER).with(Maker.ca(0)));
        store.certificate(new Maker(low, OTHER, "a", MIDDLE).with(Maker.ca()));
        store.certificate(new Maker("a", MIDDLE, "root", ROOT).with(Maker.ca(length)));
        store.trusted(new Maker("root", ROOT, "root", ROOT).with(Maker.ca(0)));
        return store;
    }

    private static void lengths() {
        verdict("LENGTH 0, two below", five(0, false), 8, 2);
        verdict("LENGTH 1, two below", five(1, false), 8, 1);
        verdict("LENGTH 2, two below", five(2, false), 0, -1);
        verdict("LENGTH 255, two below", five(255, false), 0, -1);
        verdict("LENGTH 0, one of them self-issued", five(0, true), 8, 1);
        verdict("LENGTH 1, one of them self-issued", five(1, true), 0, -1);
        verdict("LENGTH 0 just above the leaf", three(leaf(),
            new Maker("middle", MIDDLE, "root", ROOT).with(Maker.ca(0)), root()), 0, -1);
        Store further = new Store();
        further.certificate(new Maker("leaf", LEAF, "c", ROOT));
        further.certificate(new Maker("c", ROOT, "b", OTHER).with(Maker.ca(0)));
        further.certificate(new Maker("b", OTHER, "a", MIDDLE).with(Maker.ca(0)));
        further.certificate(new Maker("a", MIDDLE, "root", ROOT).with(Maker.ca(5)));
        further.trusted(root());
        verdict("LENGTH of one further down", further, 8, 1);
    }

    private static void orderOfFaults() {
        Node strange = Maker.extension("1.2.3", true, Node.raw());
        Node closed = Maker.constraints(Maker.trees(0xA1, Maker.directory(Maker.name())));
        for (int left = 1; left <= 10; left++) {
            Store store = new Store();
            Key signer = left <= 1 ? LEAF : MIDDLE;
            Maker low = new Maker("low", OTHER, "middle", signer).serial(5);
            low.from("200101000000Z", left <= 2 ? "200101110000Z" : "290101000000Z");
            if (left <= 6) {
                low.with(strange);
            }
            if (left > 7) {
                low.with(Maker.ca());
            }
            if (left <= 9) {
                low.with(Maker.usage(7, 128));
            }
            store.certificate(new Maker("leaf", LEAF, "low", OTHER).serial(6));
            store.certificate(low);
            Maker top = new Maker("middle", MIDDLE, "root", ROOT).with(left <= 8 ? Maker.ca(0) : Maker.ca());
            store.certificate(left <= 5 ? top.with(closed) : top);
            store.trusted(root());
            store.list(new Maker("root", ROOT));
            if (left <= 3) {
                store.list(new Maker("middle", MIDDLE).revoking(5));
            }
            if (left > 4) {
                store.list(new Maker("middle", MIDDLE));
            }
            store.list(new Maker("low", OTHER));
            verdict("the first of many", store, NOON, true, left == 10 ? 0 : left, left == 10 ? -1 : 1);
        }
    }

    private static void chainIs(TrustChain x, int... due) {
        for (int k = 0; k < due.length; k++) {
            CHECK.same("chain(" + k + ")", x.chain(k), due[k]);
        }
        CHECK.outOfBounds("chain(" + due.length + ")", () -> x.chain(due.length));
    }

    private static void searches() {
        Store store = new Store();
        store.certificate(leaf());
        store.certificate(middle().from("180101000000Z", "190101000000Z"));
        store.certificate(new Maker("middle", MIDDLE, "root", OTHER).with(Maker.ca()));
        store.trusted(root());
        verdict("two with faults: the first", store, 2, 1);
        CHECK.same("count(2)", store.x.count(2), 2);
        chainIs(store.x, 0, 1, 3);
        store.certificate(middle());
        verdict("then one without", store, 0, -1);
        CHECK.same("count(2)", store.x.count(2), 3);
        chainIs(store.x, 0, 4, 3);
        store.trusted(new Maker("middle", MIDDLE, "root", ROOT));
        verdict("it is not looked further", store, 0, -1);
        CHECK.same("count(2)", store.x.count(2), 3);
        store.x.trust(1, true);
        verdict("a trusted one ends the way", store, 0, -1);
        chainIs(store.x, 0, 1);
        CHECK.same("count(2)", store.x.count(2), 1);
        keys();
        circles();
    }

    private static void keys() {
        Store store = new Store();
        store.certificate(leaf().with(Maker.issuerKey(1, 2)));
        store.trusted(new Maker("middle", OTHER, "x", OTHER).with(Maker.ownKey(1, 3)));
        store.trusted(new Maker("middle", OTHER, "x", OTHER).with(Maker.ownKey(1, 2, 3)));
        Store shorter = new Store();
        shorter.certificate(leaf().with(Maker.issuerKey(1)));
        shorter.trusted(new Maker("middle", MIDDLE, "x", OTHER).with(Maker.ownKey(2)));
        CHECK.same("keys of one octet", shorter.x.validate(0, NOON, 4, false), 10);
        CHECK.same("other keys", store.x.validate(0, NOON, 4, false), 10);
        store.trusted(new Maker("middle", OTHER, "x", OTHER).with(Maker.issuerKey(1, 3)));
        CHECK.same("no OWN KEY", store.x.validate(0, NOON, 4, false), 1);
        chainIs(store.x, 0, 3);
        store.trusted(new Maker("middle", MIDDLE, "x", OTHER).with(Maker.ownKey(1, 2)));
        CHECK.same("the key", store.x.validate(0, NOON, 4, false), 0);
        chainIs(store.x, 0, 4);
        store.certificate(leaf());
        CHECK.same("no ISSUER'S KEY", store.x.validate(5, NOON, 4, false), 0);
        CHECK.same("count(2)", store.x.count(2), 4);
    }

    private static void circles() {
        Store store = new Store();
        store.certificate(new Maker("a", LEAF, "b", MIDDLE));
        store.certificate(new Maker("b", MIDDLE, "a", LEAF).with(Maker.ca()));
        CHECK.same("a circle", store.x.validate(0, NOON, 16, false), 10);
        CHECK.same("count(2)", store.x.count(2), 0);
        CHECK.same("count(3)", store.x.count(3), -1);
        CHECK.outOfBounds("chain(0)", () -> store.x.chain(0));
        store.trusted(new Maker("a", LEAF, "z", LEAF));
        CHECK.same("a way out", store.x.validate(0, NOON, 16, false), 0);
        chainIs(store.x, 0, 1, 2);
        Store self = new Store();
        self.certificate(new Maker("root", ROOT, "root", ROOT));
        CHECK.same("itself is no issuer", self.x.validate(0, NOON, 16, false), 10);
    }

    /** Ones that may follow each other, all: the ways among them are far more than 1,000. */
    private static void thousand() {
        Store store = new Store();
        Maker same = new Maker("same", ROOT, "same", ROOT).with(Maker.ca());
        byte[] text = same.certificate();
        for (int n = 0; n < 10; n++) {
            store.certificate(text, false);
        }
        CHECK.same("no trusted one", store.x.validate(0, NOON, 16, false), 10);
        byte[] bad = new Maker("same", ROOT, "same", OTHER).with(Maker.ca()).certificate();
        store.certificate(bad, true);
        int chains = countChains(11, 10, 16);
        CHECK.same("validate", store.x.validate(0, NOON, 16, false), 0);
        CHECK.same("count(2)", store.x.count(2), 1);
        CHECK.same("deepest first", store.x.chain(10), 10);
        Store faulty = new Store();
        byte[] late = new Maker("same", ROOT, "same", ROOT).from("180101000000Z", "190101000000Z").certificate();
        for (int n = 0; n < 10; n++) {
            faulty.certificate(late, false);
        }
        faulty.certificate(bad, true);
        CHECK.same("all late", faulty.x.validate(0, NOON, 16, false), 2);
        CHECK.same("chains among 1,000", faulty.x.count(2), chains);
        for (int trusted = 1; trusted < 11; trusted++) {
            faulty.x.trust(trusted == 1 ? 10 : trusted - 1, false);
            faulty.x.trust(trusted, true);
            for (int depth = 4; depth <= 16; depth++) {
                faulty.x.validate(0, NOON, depth, false);
                CHECK.same("chains to " + trusted + " at depth " + depth, faulty.x.count(2),
                    countChains(11, trusted, depth));
            }
        }
        CHECK.same("all late, depth 3", faulty.x.validate(0, NOON, 3, false), 2);
        CHECK.same("chains of three at most", faulty.x.count(2), 10);
    }

    private static int puts;
    private static int seen;

    /** The same by recursion: how many ways from 0 to the trusted one are found with 1,000 put. */
    private static int countChains(int all, int trusted, int depth) {
        puts = 0;
        seen = 0;
        walk(0, 1, 0, all, trusted, depth);
        return seen;
    }

    private static void walk(int at, int size, int used, int all, int trusted, int depth) {
        puts++;
        if (at == trusted) {
            seen++;
            return;
        }
        int now = used | 1 << at;
        for (int n = 0; n < all && size < depth; n++) {
            if ((now >> n & 1) == 0 && puts < 1000) {
                walk(n, size + 1, now, all, trusted, depth);
            }
        }
    }

    private static void refusals() {
        Store store = three(leaf(), middle(), root());
        TrustChain x = store.x;
        x.validate(0, 0, 16, false);
        CHECK.illegal("depth 0", () -> x.validate(0, NOON, 0, false));
        CHECK.illegal("depth 17", () -> x.validate(0, NOON, 17, false));
        CHECK.illegal("depth -1", () -> x.validate(0, NOON, -1, false));
        CHECK.illegal("depth 17 of none", () -> x.validate(9, NOON, 17, false));
        CHECK.outOfBounds("target 3", () -> x.validate(3, NOON, 16, false));
        CHECK.outOfBounds("target -1", () -> x.validate(-1, NOON, 16, false));
        CHECK.same("count(3) stays", x.count(3), 1);
        CHECK.same("count(2) stays", x.count(2), 1);
        CHECK.same("chain(2) stays", x.chain(2), 2);
    }
}
