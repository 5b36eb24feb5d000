import java.util.ArrayList;
import java.util.List;

/** Promise 14: whether a host's name is covered by a DNS name. */
public final class P14CoversTest {
    private static final Key ROOT = Key.small(1);
    private static final Check CHECK = new Check();

    public static void main(String[] args) {
        Store store = new Store();
        String long31 = "abcdefghijklmnopqrstuvwxyz.long";
        String long32 = "abcdefghijklmnopqrstuvwxyz.longx";
        store.certificate(new Maker("a", ROOT, "root", ROOT).with(Maker.names(
            Maker.dns("www.Example.com"), Maker.dns("*.wild.ORG"), Maker.dns("*."), Maker.dns("x*.net"), Maker.dns(long31),
            Maker.dns(long32), Node.text(0x81, "mail.example"), Maker.dns("*"), Maker.dns("*.longx"), Maker.dns("@["),
            Maker.dns("az.AZ"))));
        store.certificate(new Maker("www.only.subject", ROOT, "root", ROOT));
        for (String name : new String[] {"www.example.com", "WWW.EXAMPLE.COM", "wWw.eXaMpLe.CoM", "a.wild.org", "*.wild.org",
            ".wild.org", "A.WILD.ORG", "abc.", ".", "x*.net", long31, "*", "*.", "@[", "AZ.az", "aZ.Az"}) {
            covers(store.x, name, true);
        }
        for (String name : new String[] {"", "example.com", "ww.example.com", "www.example.co", "www.example.comm",
            "a.b.wild.org", "wild.org", "awild.org", "..wild.org", "a.b.", "xa.net", "mail.example", "root", "a",
            "www-example.com", "x.wild.or", "`{", "com", "abc"}) {
            covers(store.x, name, false);
        }
        CHECK.no("32 octets, none of them 0", covers(store.x, 0, long32));
        CHECK.no("covered by the SUBJECT", covers(store.x, 1, "www.only.subject"));
        CHECK.yes("what stands behind the first 0", covers(store.x, 0, "www.example.com\0xyz"));
        CHECK.no("a 0 in the first place", covers(store.x, 0, "\0www.example.com"));
        CHECK.no("a 0 before the first dot", covers(store.x, 0, "\0.wild.org"));
        CHECK.no("an octet above 127", covers(store.x, 0, "www.example.com\u00ff"));
        CHECK.outOfBounds("covers(2, ..)", () -> store.x.covers(2, 0, 0, 0, 0));
        CHECK.outOfBounds("covers(-1, ..)", () -> store.x.covers(-1, 0, 0, 0, 0));
        toTheFirstThatIs0();
        shortNames();
        lettersInEitherCase();
        longDnsNames();
        noDnsNames();
        CHECK.end();
    }

    private static Store with(Node... names) {
        Store store = new Store();
        store.certificate(Reading.certificate().with(Maker.names(names)));
        return store;
    }

    /** Names of each length up to 32, with a 0 behind them or without any. */
    private static void toTheFirstThatIs0() {
        String all = "abcdefghijklmnopqrstuvwxyz012345";
        for (int length = 1; length <= 32; length++) {
            String name = all.substring(0, length);
            Store store = with(Maker.dns(name));
            CHECK.same("a name of " + length, covers(store.x, 0, name) ? 1 : 0, length < 32 ? 1 : 0);
            for (int end = 0; end < 32; end++) {
                String cut = all.substring(0, end) + "\0" + all.substring(end + 1);
                CHECK.same("a 0 at " + end + ", for " + name, covers(store.x, 0, cut) ? 1 : 0, end == length ? 1 : 0);
            }
        }
        CHECK.no("32 octets that *. and the rest would cover", covers(with(Maker.dns("*.b")).x, 0, "a".repeat(30) + ".b"));
        CHECK.yes("31 octets that *. and the rest cover", covers(with(Maker.dns("*.b")).x, 0, "a".repeat(29) + ".b"));
    }

    private static List<String> texts(String signs, int longest) {
        List<String> all = new ArrayList<>(List.of(""));
        int from = 0;
        for (int length = 1; length <= longest; length++) {
            int to = all.size();
            for (; from < to; from++) {
                for (char sign : signs.toCharArray()) {
                    all.add(all.get(from) + sign);
                }
            }
        }
        return all;
    }

    /** All names of up to four signs against all DNS names of up to four. */
    private static void shortNames() {
        List<String> all = texts("a*.", 4);
        for (String dns : all.subList(1, all.size())) {
            Store store = with(Maker.dns(dns));
            for (String name : all) {
                int dot = name.indexOf('.');
                boolean due = dns.equals(name) || dot >= 0 && dns.equals("*." + name.substring(dot + 1));
                CHECK.same(name + " by " + dns, covers(store.x, 0, name) ? 1 : 0, due ? 1 : 0);
            }
        }
    }

    /** Each octet of a name, by itself and behind the first ".", against each that a DNS name may have. */
    private static void lettersInEitherCase() {
        for (int dns = 33; dns < 127; dns++) {
            Store store = with(Node.octets(0x82, 'x', dns), Node.octets(0x82, '*', '.', dns));
            for (int octet : new int[] {dns - 32, dns - 1, dns, dns + 1, dns + 32, dns ^ 32, dns + 128}) {
                boolean letters = Character.isLetter(dns) && (octet ^ 32) == dns;
                boolean due = octet == dns || letters;
                if (octet > 0) {
                    CHECK.same("octet " + octet + " by " + dns, covers(store.x, 0, "x" + (char) octet) ? 1 : 0, due ? 1 : 0);
                    CHECK.same("octet " + octet + " behind the first . by " + dns,
                        covers(store.x, 0, "y." + (char) octet) ? 1 : 0, due ? 1 : 0);
                }
            }
        }
    }

    /** A DNS name that is longer than any name that can be asked for. */
    private static void longDnsNames() {
        Store store = with(Maker.dns("a".repeat(32)), Maker.dns("a".repeat(200)), Maker.dns("*." + "b".repeat(30)),
            Maker.dns("*." + "c".repeat(29)));
        for (int length = 1; length <= 32; length++) {
            CHECK.no("a name of " + length, covers(store.x, 0, "a".repeat(length)));
        }
        CHECK.yes("behind *. thirty, nothing before the .", covers(store.x, 0, "." + "b".repeat(30)));
        CHECK.no("behind *. thirty, one more before the .", covers(store.x, 0, "x." + "b".repeat(30)));
        CHECK.yes("behind *. twenty-nine", covers(store.x, 0, "x." + "c".repeat(29)));
        CHECK.no("behind *. twenty-nine and two", covers(store.x, 0, "xy." + "c".repeat(29)));
    }

    /** What is 81, 87 or A4 is no DNS name. */
    private static void noDnsNames() {
        Store store = with(Node.text(0x81, "a"), Node.octets(0x87, 'a', 'a', 'a', 'a'), Maker.directory(Maker.name("a")));
        for (String name : new String[] {"", "a", "aa", "aaa", "aaaa", ".", "a.a", "*.a"}) {
            CHECK.no("covered by what is no DNS name: " + name, covers(store.x, 0, name));
        }
        Store bare = new Store();
        bare.certificate(Reading.certificate());
        CHECK.no("covered without NAMES", covers(bare.x, 0, "leaf"));
    }

    private static void covers(TrustChain x, String name, boolean due) {
        CHECK.same("covers " + name, covers(x, 0, name) ? 1 : 0, due ? 1 : 0);
    }

    private static boolean covers(TrustChain x, int c, String name) {
        return x.covers(c, eight(name, 0), eight(name, 8), eight(name, 16), eight(name, 24));
    }

    private static long eight(String name, int at) {
        long result = 0;
        for (int i = at; i < at + 8; i++) {
            result = result << 8 | (i < name.length() ? name.charAt(i) : 0);
        }
        return result;
    }
}
