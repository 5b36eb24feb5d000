import java.util.ArrayList;
import java.util.List;

/** Terms 4: which CHAINS there are and in what order they are looked for, each sentence on its edges. */
public final class T4ChainTest {
    private static final Key KEY = Key.small(1);
    private static final Key OTHER = Key.small(2);
    private static final long NOON = Maker.NOON_2020;
    private static final List<byte[]> ROW = new ArrayList<>();
    private static final Check CHECK = new Check();

    public static void main(String[] args) {
        for (int n = 0; n < 16; n++) {
            ROW.add(ca("n" + n, "n" + (n + 1)).certificate());
        }
        atMostAsManyAsTheDepthSays();
        lastIsTrustedNoOther();
        trustedTargetIsAloneWithoutFault();
        differentOnes();
        subjectIsTheIssuer();
        keysIfBothTellThem();
        candidatesByTheirNumbers();
        inDepth();
        theThousandth();
        chainsAmongThousand();
        firstWithoutFault();
        noChain();
        CHECK.end();
    }

    private static Maker ca(String subject, String issuer) {
        return new Maker(subject, KEY, issuer, KEY).with(Maker.ca());
    }

    private static void chainIs(String what, TrustChain x, int... due) {
        for (int k = 0; k < due.length; k++) {
            CHECK.same("chain(" + k + ") of " + what, x.chain(k), due[k]);
        }
        CHECK.outOfBounds("chain(" + due.length + ") of " + what, () -> x.chain(due.length));
    }

    private static void verdict(String what, Store store, int depth, int due, int chains) {
        CHECK.same(what, store.x.validate(0, NOON, depth, false), due);
        CHECK.same("count(2) of " + what, store.x.count(2), chains);
    }

    /** A row of each length from 1 to 16, at each depth. */
    private static void atMostAsManyAsTheDepthSays() {
        for (int length = 1; length <= 16; length++) {
            Store store = row(16);
            store.x.trust(length - 1, true);
            for (int depth = 1; depth <= 16; depth++) {
                boolean fits = length <= depth;
                CHECK.same("a CHAIN of " + length + ", depth " + depth, store.x.validate(0, NOON, depth, false),
                    fits ? 0 : 10);
                CHECK.same("count(2)", store.x.count(2), fits ? 1 : 0);
            }
        }
    }

    /** So many, each the issuer of the one before it. */
    private static Store row(int size) {
        Store store = new Store();
        for (int n = 0; n < size; n++) {
            store.certificate(ROW.get(n), false);
        }
        return store;
    }

    private static void lastIsTrustedNoOther() {
        for (int trusted = 0; trusted < 32; trusted++) {
            Store store = row(5);
            for (int n = 0; n < 5; n++) {
                store.x.trust(n, (trusted >> n & 1) == 1);
            }
            verdict("TRUSTED " + trusted, store, 16, trusted == 0 ? 10 : 0, trusted == 0 ? 0 : 1);
            int size = trusted == 0 ? 0 : Integer.numberOfTrailingZeros(trusted) + 1;
            int[] due = {0, 1, 2, 3, 4};
            chainIs("TRUSTED " + trusted, store.x, java.util.Arrays.copyOf(due, size));
        }
    }

    /** Whatever might be a FAULT of it. */
    private static void trustedTargetIsAloneWithoutFault() {
        Store store = new Store();
        Maker bad = new Maker("n0", KEY, "n1", OTHER).from("200101000000Z", "190101000000Z").serial(5);
        store.trusted(bad.with(Maker.extension("1.2.3", true, Node.raw()), Maker.usage(7, 128),
            Maker.names(Maker.dns("a"))));
        store.trusted(ca("n1", "n1").with(Maker.constraints(Maker.trees(0xA1, Maker.dns("")))));
        store.list(new Maker("n1", KEY).revoking(5));
        for (long time : new long[] {Long.MIN_VALUE, -1, 0, NOON, Long.MAX_VALUE}) {
            for (int depth : new int[] {1, 2, 16}) {
                CHECK.same("a TRUSTED target", store.x.validate(0, time, depth, true), 0);
                CHECK.same("count(2)", store.x.count(2), 1);
                CHECK.same("count(3)", store.x.count(3), -1);
                chainIs("a TRUSTED target", store.x, 0);
            }
        }
        store.x.trust(0, false);
        verdict("it, when it is not TRUSTED", store, 16, 1, 1);
        chainIs("it, when it is not TRUSTED", store.x, 0, 1);
    }

    /** None stands twice in a CHAIN; the same text, stored twice, are two. */
    private static void differentOnes() {
        Store store = new Store();
        byte[] text = ca("same", "same").certificate();
        store.certificate(text, false);
        verdict("alone", store, 16, 10, 0);
        store.certificate(text, false);
        verdict("two", store, 16, 10, 0);
        store.certificate(text, true);
        verdict("a third, TRUSTED", store, 16, 0, 1);
        chainIs("a third, TRUSTED", store.x, 0, 1, 2);
        verdict("a third, TRUSTED, depth 2", store, 2, 0, 1);
        chainIs("a third, TRUSTED, depth 2", store.x, 0, 2);
        Store ring = new Store();
        for (int n = 0; n < 4; n++) {
            ring.certificate(ca("r" + n, "r" + (n + 1) % 4));
        }
        verdict("a ring", ring, 16, 10, 0);
        ring.trusted(ca("r0", "x"));
        verdict("a ring with a way out", ring, 16, 0, 1);
        chainIs("a ring with a way out", ring.x, 0, 1, 2, 3, 4);
        verdict("a ring with a way out, too deep", ring, 4, 10, 0);
    }

    private static void link(boolean due, Node issuer, Node subject) {
        Store store = new Store();
        Maker target = new Maker("leaf", OTHER, "x", KEY);
        target.issuer = issuer;
        Maker top = ca("x", "y");
        top.subject = subject;
        store.certificate(target);
        store.trusted(top);
        CHECK.same("SUBJECT and ISSUER", store.x.validate(0, NOON, 2, false), due ? 0 : 10);
    }

    /** Two NAMES are the same if their octets are. */
    private static void subjectIsTheIssuer() {
        link(true, Maker.name("a"), Maker.name("a"));
        link(true, Maker.name("a", "b"), Maker.name("a", "b"));
        link(false, Maker.name("a"), Maker.name("b"));
        link(false, Maker.name("a"), Maker.name("A"));
        link(false, Maker.name("a"), Maker.name("a "));
        link(false, Maker.name("a"), Maker.name("a", "b"));
        link(false, Maker.name("a", "b"), Maker.name("a"));
        link(false, Maker.name("a", "b"), Maker.name("b", "a"));
        link(false, Maker.name("a", "a"), Maker.name("a"));
        link(false, Maker.name("a"), Maker.name());
        link(false, Maker.name("a"), Node.seq(Maker.part("2.5.4.3", Node.text(0x13, "a"))));
        link(false, Maker.name("a"), Node.seq(Maker.part("2.5.4.4", Node.text(0x0C, "a"))));
        link(false, Maker.name("abc"), Maker.name("abd"));
        link(false, Maker.name("abc"), Maker.name("bbc"));
    }

    private static void keysIfBothTellThem() {
        int[][] keys = {{}, {1}, {2}, {1, 2}, {1, 2, 3}, {0}, {0, 1}};
        for (int[] wanted : keys) {
            for (int[] own : keys) {
                Maker target = new Maker("leaf", OTHER, "top", KEY);
                Maker top = ca("top", "y");
                if (wanted.length > 0) {
                    target.with(Maker.issuerKey(wanted));
                }
                if (own.length > 0) {
                    top.with(Maker.ownKey(own));
                }
                // Of the other two nothing counts: what the target has for its own, and what the top is looked for by.
                target.with(Maker.ownKey(9));
                top.with(Maker.issuerKey(8));
                Store store = new Store();
                store.certificate(target);
                store.trusted(top);
                boolean follows = wanted.length == 0 || own.length == 0 || java.util.Arrays.equals(wanted, own);
                CHECK.same("keys", store.x.validate(0, NOON, 2, false), follows ? 0 : 10);
            }
        }
    }

    /** Not by when they were TRUSTED. */
    private static void candidatesByTheirNumbers() {
        Store store = new Store();
        store.certificate(new Maker("leaf", OTHER, "top", KEY));
        for (int n = 1; n < 5; n++) {
            store.certificate(ca("top", "x"));
        }
        int[] order = {4, 2, 3, 1};
        int least = 5;
        for (int n : order) {
            store.x.trust(n, true);
            least = Math.min(least, n);
            verdict("candidates", store, 2, 0, 1);
            chainIs("candidates", store.x, 0, least);
        }
        Store last = new Store();
        last.trusted(ca("top", "x"));
        last.certificate(new Maker("leaf", OTHER, "top", KEY));
        last.trusted(ca("top", "x"));
        CHECK.same("one with a number below the target's", last.x.validate(1, NOON, 2, false), 0);
        chainIs("one with a number below the target's", last.x, 1, 0);
    }

    /** All behind the first candidate comes before the second one. */
    private static void inDepth() {
        Store store = new Store();
        store.certificate(new Maker("leaf", OTHER, "a", KEY));
        store.certificate(ca("a", "b"));
        store.trusted(ca("a", "z"));
        store.certificate(ca("b", "c"));
        store.trusted(ca("c", "z"));
        verdict("in depth", store, 16, 0, 1);
        chainIs("in depth", store.x, 0, 1, 3, 4);
        verdict("in depth, at most three", store, 3, 0, 1);
        chainIs("in depth, at most three", store.x, 0, 2);
        Store faulty = new Store();
        faulty.certificate(new Maker("leaf", OTHER, "a", OTHER));
        faulty.certificate(ca("a", "b"));
        faulty.trusted(ca("a", "z"));
        faulty.trusted(ca("b", "c"));
        faulty.trusted(ca("b", "d"));
        verdict("all CHAINS, each with a FAULT", faulty, 16, 1, 3);
        chainIs("the first of them", faulty.x, 0, 1, 3);
        CHECK.same("count(3)", faulty.x.count(3), 0);
    }

    /** From the target 998 - 3 are put in vain on ways among nine; each dead end puts one more, then come the last two. */
    private static Store longWay(int deadEnds) {
        Store store = new Store();
        store.certificate(ca("target", "0"));
        for (int n = 0; n < deadEnds; n++) {
            store.certificate(ca("0", "nobody"));
        }
        for (String way : new String[] {"03", "13", "33", "12", "23", "33", "33", "31", "31"}) {
            store.certificate(ca(way.substring(0, 1), way.substring(1)));
        }
        store.certificate(ca("0", "top"));
        store.trusted(ca("top", "top"));
        return store;
    }

    /** The 999th, the 1,000th and the 1,001st that is put: the last one is not. */
    private static void theThousandth() {
        for (int deadEnds = 2; deadEnds <= 4; deadEnds++) {
            Store store = longWay(deadEnds);
            CHECK.same("the model's own count", putsOf(store.x.count(0), deadEnds), 997 + deadEnds);
            boolean reached = 997 + deadEnds <= 1000;
            verdict("put as " + (997 + deadEnds), store, 16, reached ? 0 : 10, reached ? 1 : 0);
            if (reached) {
                chainIs("put as " + (997 + deadEnds), store.x, 0, store.x.count(0) - 2, store.x.count(0) - 1);
            } else {
                chainIs("none", store.x);
            }
            CHECK.same("the next search begins anew", store.x.validate(store.x.count(0) - 2, NOON, 2, false), 0);
        }
    }

    private static int putsOf(int count, int deadEnds) {
        List<String> ways = new ArrayList<>();
        ways.add("t0");
        for (int n = 0; n < deadEnds; n++) {
            ways.add("0n");
        }
        ways.addAll(List.of("03", "13", "33", "12", "23", "33", "33", "31", "31", "0x", "xx"));
        CHECK.same("as many as stored", ways.size(), count);
        Walk walk = new Walk(ways, 16, 100000, ways.size() - 1);
        walk.put(0, 1, 0);
        return walk.puts;
    }

    /** The search by recursion: names of one letter, SUBJECT and ISSUER. */
    private static final class Walk {
        private final List<String> ways;
        private final int depth;
        private final int limit;
        private final int firstTrusted;
        int puts = 0;
        int chains = 0;

        Walk(List<String> ways, int depth, int limit, int firstTrusted) {
            this.ways = ways;
            this.depth = depth;
            this.limit = limit;
            this.firstTrusted = firstTrusted;
        }

        void put(int at, int size, int used) {
            puts++;
            if (at >= firstTrusted) {
                chains++;
                return;
            }
            int now = used | 1 << at;
            for (int n = 0; n < ways.size() && size < depth; n++) {
                boolean follows = ways.get(n).charAt(0) == ways.get(at).charAt(1);
                if (follows && (now >> n & 1) == 0 && puts < limit) {
                    put(n, size + 1, now);
                }
            }
        }
    }

    /** Where the 1,000th and the one behind it both end a CHAIN, count(2) tells whether one too many or too few was put. */
    private static void chainsAmongThousand() {
        int edges = 0;
        for (int plain = 4; plain < 10; plain++) {
            List<String> ways = new ArrayList<>();
            Store store = new Store();
            byte[] late = new Maker("a", KEY, "a", KEY).from("180101000000Z", "190101000000Z").certificate();
            for (int n = 0; n < 16; n++) {
                ways.add("aa");
                store.certificate(late, n >= plain);
            }
            for (int depth = 4; depth < 9; depth++) {
                int[] chains = new int[3];
                for (int i = 0; i < 3; i++) {
                    Walk walk = new Walk(ways, depth, 999 + i, plain);
                    walk.put(0, 1, 0);
                    chains[i] = walk.chains;
                }
                verdict("among 1,000", store, depth, 2, chains[1]);
                edges += chains[0] < chains[1] && chains[1] < chains[2] ? 1 : 0;
            }
        }
        CHECK.yes("the edge was met", edges > 5);
    }

    /** The verdict: 0 the first without a FAULT, then no further one is looked at; else the FAULT of the first one. */
    private static void firstWithoutFault() {
        for (int good = 1; good <= 5; good++) {
            Store store = new Store();
            store.certificate(new Maker("leaf", OTHER, "top", KEY));
            for (int n = 1; n <= 4; n++) {
                Key own = n == good ? KEY : Key.small(10 + n);
                store.trusted(new Maker("top", own, "x", OTHER));
            }
            verdict("the good one is " + good, store, 2, good <= 4 ? 0 : 1, Math.min(good, 4));
            chainIs("the good one is " + good, store.x, 0, good <= 4 ? good : 1);
            CHECK.same("count(3)", store.x.count(3), good <= 4 ? -1 : 0);
        }
    }

    private static void noChain() {
        Store store = new Store();
        store.certificate(new Maker("leaf", OTHER, "top", KEY));
        verdict("nobody else", store, 16, 10, 0);
        chainIs("nobody else", store.x);
        CHECK.same("count(3)", store.x.count(3), -1);
        store.certificate(ca("top", "x"));
        verdict("nobody is TRUSTED", store, 16, 10, 0);
        store.trusted(ca("other", "x"));
        verdict("just another is TRUSTED", store, 16, 10, 0);
        chainIs("just another is TRUSTED", store.x);
    }
}
