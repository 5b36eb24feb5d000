/** Promise 2: 20 octets come to what is fed, up to 2,060. */
public final class P02FeedTest {
    public static void main(String[] args) {
        Check check = new Check();
        TrustChain x = new TrustChain();
        for (int n = 1; n <= 103; n++) {
            check.same("feed " + n, x.feed(n, -n, 0, -1, Integer.MIN_VALUE), 20L * n);
        }
        check.outOfBounds("feed beyond 2,060", () -> x.feed(0, 0, 0, 0, 0));
        check.same("count(4) behind it", x.count(4), 2060);
        check.outOfBounds("certificate(2049, ..)", () -> x.certificate(2049, false));
        check.same("count(4) when no text was looked at", x.count(4), 2060);
        check.illegal("certificate(2048, ..)", () -> x.certificate(2048, false));
        check.same("count(4) behind a text", x.count(4), 0);
        check.same("feed once more", x.feed(0, 0, 0, 0, 0), 20);
        orderOfOctets(check);
        check.end();
    }

    /** An element whose length is known tells by WRONG which octet came where. */
    private static void orderOfOctets(Check check) {
        TrustChain x = new TrustChain();
        x.feed(0x30033001, 0x02050000, 0, 0, 0);
        check.illegal("certificate(5, ..)", () -> x.certificate(5, false));
        check.same("wrong()", x.wrong(), 4);
        x.feed(0x300B3009, 0xA0030201, 0x02020200, 0x01000000, 0);
        check.illegal("certificate(13, ..)", () -> x.certificate(13, false));
        check.same("wrong() in the fourth word", x.wrong(), 9);
    }
}
