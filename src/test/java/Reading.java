/** Reads texts, each in an object that holds one of each kind, and compares what came of it with what is due. */
final class Reading {
    private static final Key KEY = Key.small(1);
    private static final byte[] HELD = certificate().text();
    private static final byte[] HELD_LIST = list().text();
    private final Check check;

    Reading(Check check) {
        this.check = check;
    }

    /** Its signature has no octets: just the form of it counts here. */
    static Maker certificate() {
        Maker maker = new Maker("leaf", KEY, "root", KEY);
        maker.signature = Node.bits(0);
        return maker;
    }

    static Maker list() {
        Maker maker = new Maker("root", KEY);
        maker.signature = Node.bits(0);
        return maker;
    }

    static Node publicKey(Node... inKey) {
        return Node.seq(Maker.alg(1), Node.bits(0, Node.seq(inKey)));
    }

    static Maker withSubject(Node name) {
        Maker maker = certificate();
        maker.subject = name;
        return maker;
    }

    static Maker withString(Node string) {
        return withSubject(Node.seq(Maker.part("2.5.4.3", string)));
    }

    void stands(String what, Maker maker) {
        read(what, maker.text(), maker.isList, -1);
    }

    /** WRONG at the PLACE of a node that stands in the text. */
    void at(String what, Node due, Maker maker) {
        byte[] text = maker.text();
        read(what, text, maker.isList, due.place);
    }

    /** WRONG where a node of the text ends. */
    void behind(String what, Node due, Maker maker) {
        byte[] text = maker.text();
        read(what, text, maker.isList, due.end);
    }

    void either(String what, boolean stands, Node due, Maker maker) {
        if (stands) {
            stands(what, maker);
        } else {
            at(what, due, maker);
        }
    }

    /** What is WRONG is not stored, what was stored stays; what was fed is nothing then in both cases. */
    void read(String what, byte[] text, boolean list, int due) {
        Store store = new Store();
        TrustChain x = store.x;
        store.certificate(HELD, true);
        store.list(HELD_LIST);
        store.feed(text);
        boolean threw = false;
        try {
            int number = list ? x.list(text.length) : x.certificate(text.length, false);
            check.same("the number of " + what, number, 1);
        } catch (IllegalArgumentException refused) {
            threw = true;
            check.yes(what + " refused by a throw of the class", Check.isOwn(refused));
        }
        check.same(what + " is refused", threw ? 1 : 0, due < 0 ? 0 : 1);
        check.same("wrong() of " + what, x.wrong(), due);
        check.same("certificates behind " + what, x.count(0), due < 0 && !list ? 2 : 1);
        check.same("lists behind " + what, x.count(1), due < 0 && list ? 2 : 1);
        check.same("octets fed behind " + what, x.count(4), 0);
    }
}
