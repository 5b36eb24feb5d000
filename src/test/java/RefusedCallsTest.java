import java.util.ArrayList;
import java.util.List;
import java.util.function.Consumer;
import java.util.function.Supplier;

/** What throws: the first exception of the heading that fits, and nothing is changed but what the document says. */
public final class RefusedCallsTest {
    private static final int LOW = Integer.MIN_VALUE;
    private static final int HIGH = Integer.MAX_VALUE;
    private static final Key ROOT = Key.small(1);
    private static final Key LEAF = Key.small(2);
    private static final byte[] TOP = new Maker("root", ROOT, "root", ROOT).with(Maker.ca()).text();
    private static final byte[] GOOD = new Maker("leaf", LEAF, "root", ROOT).with(Maker.names(Maker.dns("a"))).text();
    private static final byte[] LIST = new Maker("root", ROOT).revoking(1).text();
    private static final byte[] SMALL = Reading.certificate().text();
    private static final byte[] SMALL_LIST = Reading.list().text();
    private static final Check CHECK = new Check();

    public static void main(String[] args) {
        ofANewObject();
        ofAStoreWithSome();
        ofAFullStore();
        feedBeyondTheLast();
        octetsStayWhenNoTextWasLookedAt();
        whatIsWrongChangesTextAlone();
        theFirstThatFits();
        questionsChangeNothing();
        theVerdictStays();
        CHECK.end();
    }

    private interface Call {
        void on(TrustChain x);
    }

    /** Calls that are refused where there are so many certificates and lists, and so many octets fed. */
    private static List<Call> outOfBounds(int certificates, int lists, int fed, int chain) {
        List<Call> calls = new ArrayList<>();
        for (int n : new int[] {LOW, -1, fed + 1, 2049, HIGH}) {
            calls.add(x -> x.certificate(n, true));
            calls.add(x -> x.certificate(n, false));
            calls.add(x -> x.list(n));
        }
        for (int c : new int[] {LOW, -1, certificates, certificates + 1, 16, HIGH}) {
            calls.add(x -> x.trust(c, true));
            calls.add(x -> x.trust(c, false));
            calls.add(x -> x.part(c, 0));
            calls.add(x -> x.part(c, 11));
            calls.add(x -> x.signed(false, c, 0));
            calls.add(x -> x.signed(false, 0, c));
            calls.add(x -> x.signed(true, 0, c));
            calls.add(x -> x.digest(c, 0));
            calls.add(x -> x.digest(c, 7));
            calls.add(x -> x.validate(c, 0, 1, false));
            calls.add(x -> x.validate(c, 0, 16, true));
            calls.add(x -> x.covers(c, -1, -1, -1, -1));
            calls.add(x -> x.covers(c, 0, 0, 0, 0));
        }
        for (int l : new int[] {LOW, -1, lists, lists + 1, 8, HIGH}) {
            calls.add(x -> x.listPart(l, 0));
            calls.add(x -> x.listPart(l, 3));
            calls.add(x -> x.signed(true, l, 0));
        }
        for (int word : new int[] {LOW, -1, 8, 9, HIGH}) {
            calls.add(x -> x.digest(0, word));
        }
        for (int k : new int[] {LOW, -1, chain, chain + 1, 16, HIGH}) {
            calls.add(x -> x.chain(k));
        }
        return calls;
    }

    private static List<Call> illegal() {
        List<Call> calls = new ArrayList<>();
        for (int c : new int[] {LOW, -1, 0, 2, 16, HIGH}) {
            for (int what : new int[] {LOW, -1, 12, 13, HIGH}) {
                calls.add(x -> x.part(c, what));
            }
            for (int what : new int[] {LOW, -1, 4, 5, HIGH}) {
                calls.add(x -> x.listPart(c, what));
            }
            for (int depth : new int[] {LOW, -1, 0, 17, 18, HIGH}) {
                calls.add(x -> x.validate(c, 0, depth, true));
            }
        }
        for (int what : new int[] {LOW, -1, 5, 6, HIGH}) {
            calls.add(x -> x.count(what));
        }
        return calls;
    }

    /** Each call in a new store of the same making, so that no object is asked too often. */
    private static void refused(String where, Supplier<TrustChain> made, List<Call> bounds, boolean brief) {
        List<Call> all = new ArrayList<>(bounds);
        all.addAll(illegal());
        for (int n = 0; n < all.size(); n++) {
            TrustChain x = made.get();
            Call call = all.get(n);
            String what = "refused call " + n + " of " + where;
            String before = brief ? Picture.brief(x) : Picture.of(x);
            if (n < bounds.size()) {
                CHECK.outOfBounds(what, () -> call.on(x));
            } else {
                CHECK.illegal(what, () -> call.on(x));
            }
            CHECK.sameText("what is behind " + what, brief ? Picture.brief(x) : Picture.of(x), before);
        }
    }

    private static void ofANewObject() {
        refused("a new object", TrustChain::new, outOfBounds(0, 0, 0, 0), false);
    }

    /** Two certificates, a list, a verdict that was a FAULT, a text that was WRONG at 2, and twenty octets. */
    private static Store some() {
        Store store = new Store();
        store.certificate(GOOD, false);
        store.certificate(TOP, true);
        store.list(LIST);
        CHECK.same("the leaf is revoked", store.x.validate(0, Maker.NOON_2020, 2, true), 3);
        store.x.feed(0x30000000, 0, 0, 0, 0);
        CHECK.illegal("a text that is WRONG", () -> store.x.certificate(2, true));
        store.x.feed(1, 2, 3, 4, 5);
        return store;
    }

    private static void ofAStoreWithSome() {
        refused("a store with some", () -> some().x, outOfBounds(2, 1, 20, 2), false);
    }

    private static Store full() {
        Store store = new Store();
        for (int n = 0; n < 16; n++) {
            store.certificate(SMALL, n % 2 == 0);
        }
        for (int n = 0; n < 8; n++) {
            store.list(SMALL_LIST);
        }
        CHECK.same("one that is TRUSTED", store.x.validate(2, 0, 1, true), 0);
        store.feed(SMALL);
        return store;
    }

    private static void ofAFullStore() {
        int fed = (SMALL.length + 19) / 20 * 20;
        List<Call> bounds = outOfBounds(16, 8, fed, 1);
        for (int n : new int[] {0, 1, SMALL.length, fed}) {
            bounds.add(x -> x.certificate(n, true));
            bounds.add(x -> x.list(n));
        }
        refused("a full store", () -> full().x, bounds, true);
        Store store = full();
        for (int c = 0; c < 16; c++) {
            CHECK.same("trust of " + c, store.x.trust(c, false) ? 1 : 0, c % 2 == 0 ? 1 : 0);
        }
        CHECK.same("the last of 16", store.x.part(15, 8), 1);
        CHECK.same("the last of 8", store.x.listPart(7, 2), 0);
        CHECK.no("signed by the last", store.x.signed(true, 7, 15));
    }

    /** 2,060 and not one call more; the octets that were there are still there. */
    private static void feedBeyondTheLast() {
        Store store = new Store();
        int fed = store.feed(GOOD);
        for (; fed < 2060; fed += 20) {
            CHECK.same("feed", store.x.feed(-1, -1, -1, -1, -1), fed + 20);
        }
        for (int n = 0; n < 3; n++) {
            String before = Picture.of(store.x);
            CHECK.outOfBounds("feed beyond 2,060", () -> store.x.feed(7, 7, 7, 7, 7));
            CHECK.sameText("what is behind it", Picture.of(store.x), before);
        }
        CHECK.same("what was fed", store.x.certificate(GOOD.length, false), 0);
        CHECK.same("then feed begins anew", store.x.feed(0, 0, 0, 0, 0), 20);
    }

    private static void octetsStayWhenNoTextWasLookedAt() {
        for (int n : new int[] {LOW, -1, 2049, 2060, 2061, HIGH}) {
            for (boolean list : new boolean[] {false, true}) {
                Store store = new Store();
                for (int fed = store.feed(list ? LIST : GOOD); fed < 2060; fed += 20) {
                    store.x.feed(-1, -1, -1, -1, -1);
                }
                CHECK.outOfBounds("n = " + n, () -> read(store.x, n, list));
                CHECK.outOfBounds("n = " + n + ", of the other kind", () -> read(store.x, n, !list));
                CHECK.same("octets fed", store.x.count(4), 2060);
                CHECK.same("the text that is still there", read(store.x, (list ? LIST : GOOD).length, list), 0);
            }
        }
        Store full = full();
        for (int n = 0; n < 3; n++) {
            CHECK.outOfBounds("a 17th", () -> full.x.certificate(SMALL.length, true));
            CHECK.outOfBounds("a 9th", () -> full.x.list(SMALL.length));
        }
        CHECK.same("they are all there", full.x.count(4), (SMALL.length + 19) / 20 * 20);
    }

    private static void whatIsWrongChangesTextAlone() {
        for (boolean list : new boolean[] {false, true}) {
            Store store = some();
            String before = Picture.butText(store.x);
            CHECK.illegal("a text that is WRONG", () -> read(store.x, 20, list));
            CHECK.sameText("all but the text", Picture.butText(store.x), before);
            CHECK.same("wrong()", store.x.wrong(), 0);
            CHECK.same("octets fed", store.x.count(4), 0);
        }
    }

    private static int read(TrustChain x, int n, boolean list) {
        return list ? x.list(n) : x.certificate(n, true);
    }

    /** Where two would fit: of a text the bounds first, of what is asked for the question first. */
    private static void theFirstThatFits() {
        Store store = full();
        CHECK.outOfBounds("full and WRONG", () -> store.x.certificate(1, false));
        CHECK.outOfBounds("full and WRONG, a list", () -> store.x.list(1));
        CHECK.outOfBounds("full and n too high", () -> store.x.certificate(2049, false));
        CHECK.illegal("no part of none", () -> store.x.part(16, 12));
        CHECK.illegal("no part of no list", () -> store.x.listPart(8, 4));
        CHECK.illegal("no depth for none", () -> store.x.validate(16, 0, 17, false));
        CHECK.illegal("no depth for none below", () -> store.x.validate(-1, 0, 0, false));
    }

    private static void questionsChangeNothing() {
        List<Consumer<TrustChain>> questions = List.of(x -> x.wrong(), x -> x.trust(0, false), x -> x.trust(1, true),
            x -> x.part(0, 3), x -> x.listPart(0, 1), x -> x.signed(false, 1, 0), x -> x.signed(true, 0, 1),
            x -> x.digest(1, 7), x -> x.chain(1), x -> x.count(3), x -> x.covers(0, -1, 5, 5, 5));
        for (int n = 0; n < questions.size(); n++) {
            TrustChain x = some().x;
            String before = Picture.of(x);
            questions.get(n).accept(x);
            CHECK.sameText("what is behind question " + n, Picture.of(x), before);
        }
    }

    /** The CHAIN and the counts of the latest validate() are those of then, whatever comes later. */
    private static void theVerdictStays() {
        Store store = some();
        TrustChain x = store.x;
        List<Consumer<TrustChain>> later = List.of(y -> y.trust(1, false), y -> y.trust(0, true),
            y -> CHECK.illegal("WRONG", () -> y.certificate(20, true)), y -> store.certificate(TOP, true),
            y -> store.list(LIST), y -> y.feed(0, 0, 0, 0, 0),
            y -> CHECK.illegal("no depth", () -> y.validate(1, 0, 0, false)),
            y -> CHECK.outOfBounds("no target", () -> y.validate(3, 0, 1, false)));
        for (int n = 0; n < later.size(); n++) {
            later.get(n).accept(x);
            CHECK.same("count(2) behind " + n, x.count(2), 1);
            CHECK.same("count(3) behind " + n, x.count(3), 0);
            CHECK.same("chain(0) behind " + n, x.chain(0), 0);
            CHECK.same("chain(1) behind " + n, x.chain(1), 1);
            CHECK.outOfBounds("chain(2) behind " + n, () -> x.chain(2));
        }
    }
}
