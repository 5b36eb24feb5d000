/** Promise 14: whether a host's name is covered by a DNS name. */
public final class P14CoversTest {
    private static final Key ROOT = Key.small(1);
    private static final Check CHECK = new Check();

    public static void main(String[] args) {
        Store store = new Store();
        String long31 = "abcdefghijklmnopqrstuvwxyz.long";
        String long32 = "abcdefghijklmnopqrstuvwxyz.longx";
        store.certificate(new Maker("a", ROOT, "root", ROOT).with(Maker.names(
            Maker.dns("www.Example.com"), Maker.dns("*.wild.ORG"), Maker.dns("*."), Maker.dns("x*.net"), Maker.dns(long31),
            Maker.dns(long32), Node.text(0x81, "mail.example"), Maker.dns("*"), Maker.dns("*.longx"), Maker.dns("@["),
            Maker.dns("az.AZ"))));
        store.certificate(new Maker("www.only.subject", ROOT, "root", ROOT));
        for (String name : new String[] {"www.example.com", "WWW.EXAMPLE.COM", "wWw.eXaMpLe.CoM", "a.wild.org", "*.wild.org",
            ".wild.org", "A.WILD.ORG", "abc.", ".", "x*.net", long31, "*", "*.", "@[", "AZ.az", "aZ.Az"}) {
            covers(store.x, name, true);
        }
        for (String name : new String[] {"", "example.com", "ww.example.com", "www.example.co", "www.example.comm",
            "a.b.wild.org", "wild.org", "awild.org", "..wild.org", "a.b.", "xa.net", "mail.example", "root", "a",
            "www-example.com", "x.wild.or", "`{", "com", "abc"}) {
            covers(store.x, name, false);
        }
        CHECK.no("32 octets, none of them 0", covers(store.x, 0, long32));
        CHECK.no("covered by the SUBJECT", covers(store.x, 1, "www.only.subject"));
        CHECK.yes("what stands behind the first 0", covers(store.x, 0, "www.example.com\0xyz"));
        CHECK.no("a 0 in the first place", covers(store.x, 0, "\0www.example.com"));
        CHECK.no("a 0 before the first dot", covers(store.x, 0, "\0.wild.org"));
        CHECK.no("an octet above 127", covers(store.x, 0, "www.example.com\u00ff"));
        CHECK.outOfBounds("covers(2, ..)", () -> store.x.covers(2, 0, 0, 0, 0));
        CHECK.outOfBounds("covers(-1, ..)", () -> store.x.covers(-1, 0, 0, 0, 0));
        CHECK.end();
    }

    private static void covers(TrustChain x, String name, boolean due) {
        CHECK.same("covers " + name, covers(x, 0, name) ? 1 : 0, due ? 1 : 0);
    }

    private static boolean covers(TrustChain x, int c, String name) {
        return x.covers(c, eight(name, 0), eight(name, 8), eight(name, 16), eight(name, 24));
    }

    private static long eight(String name, int at) {
        long result = 0;
        for (int i = at; i < at + 8; i++) {
            result = result << 8 | (i < name.length() ? name.charAt(i) : 0);
        }
        return result;
    }
}
