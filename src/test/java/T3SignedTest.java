import java.io.ByteArrayOutputStream;
import java.math.BigInteger;
import java.util.Arrays;

/** Terms 3: SIGNED, each sentence on its edges, asked of CERTIFICATES and of LISTS alike. */
public final class T3SignedTest {
    private static final BigInteger ONE = BigInteger.ONE;
    private static final Key LEAF = Key.small(2);
    private static final Check CHECK = new Check();

    public static void main(String[] args) {
        asManyOctetsAsN();
        aSignatureThatBeginsWith0();
        belowN();
        justBesideN();
        specialModuli();
        eightFfAtLeast();
        everyOctetOfTheForm();
        otherForms();
        fromItsTagOn();
        smallestAndLargestExponent();
        byAnyOfTheSameKey();
        CHECK.end();
    }

    private static Maker signedBy(Key key, boolean list) {
        return list ? new Maker("root", key) : new Maker("leaf", LEAF, "root", key);
    }

    private static Maker unsigned(Maker maker) {
        maker.signature = Node.bits(0);
        maker.text();
        return maker;
    }

    private static Maker root(Node key) {
        Maker maker = new Maker("root", LEAF, "root", LEAF);
        maker.publicKey = Node.seq(Maker.alg(1), Node.bits(0, key));
        return unsigned(maker);
    }

    private static byte[] body(Key key, boolean list) {
        return unsigned(signedBy(key, list)).body.write();
    }

    /** Asks for both kinds; the form (or the signature itself) is made for what is to be signed. */
    private interface Signing {
        byte[] of(byte[] body);
    }

    private static void signed(String what, boolean due, Key key, Signing signing) {
        for (boolean list : new boolean[] {false, true}) {
            Maker maker = signedBy(key, list);
            byte[] signature = signing.of(body(key, list));
            byte[] octets = new byte[signature.length + 1];
            System.arraycopy(signature, 0, octets, 1, signature.length);
            maker.signature = Node.octets(3, octets);
            Store store = new Store();
            store.certificate(root(key.node()));
            int number = list ? store.list(maker) : store.certificate(maker);
            CHECK.same((list ? "a LIST: " : "a CERTIFICATE: ") + what, store.x.signed(list, number, 0) ? 1 : 0, due ? 1 : 0);
        }
    }

    private static void asManyOctetsAsN() {
        for (int bits : new int[] {496, 497, 503, 504, 505, 511, 512, 513, 1024, 2040, 2041, 2047, 2048}) {
            Key key = new Key(bits, 65537, bits);
            int size = (bits + 7) / 8;
            signed("as many octets as n of bits " + bits, true, key, body -> {
                byte[] signature = key.sign(body);
                CHECK.same("octets", signature.length, size);
                return signature;
            });
            signed("a 0 more, bits " + bits, false, key, body -> join(new byte[1], key.sign(body)));
            signed("a 0 more behind, bits " + bits, false, key, body -> Arrays.copyOf(key.sign(body), size + 1));
            signed("the last one less, bits " + bits, false, key, body -> Arrays.copyOf(key.sign(body), size - 1));
            signed("the first one less, bits " + bits, false, key,
                body -> Arrays.copyOfRange(key.sign(body), 1, size));
        }
        Key small = Key.small(1);
        signed("no octets", false, small, body -> new byte[0]);
        signed("very many octets", false, small, body -> join(new byte[300], small.sign(body)));
    }

    private static byte[] join(byte[] one, byte[] two) {
        ByteArrayOutputStream out = new ByteArrayOutputStream();
        out.writeBytes(one);
        out.writeBytes(two);
        return out.toByteArray();
    }

    /** A low number: the 0 in front of it counts as one of the octets. */
    private static void aSignatureThatBeginsWith0() {
        Key key = Key.small(1);
        for (int serial = 1; serial < 5000; serial++) {
            Maker maker = unsigned(new Maker("leaf", LEAF, "root", key).serial(serial));
            byte[] signature = key.sign(maker.body.write());
            if (signature[0] == 0) {
                CHECK.yes("with its 0", isSigned(maker, key.node(), signature));
                CHECK.no("without its 0", isSigned(maker, key.node(), Arrays.copyOfRange(signature, 1, signature.length)));
                return;
            }
        }
        CHECK.tell("no signature begins with 0");
    }

    private static boolean isSigned(Maker maker, Node key, byte[] signature) {
        maker.signature = Node.octets(3, join(new byte[1], signature));
        Store store = new Store();
        store.certificate(maker);
        store.certificate(root(key));
        return store.x.signed(false, 0, 1);
    }

    /** n of 8 * k + 1 bits leaves room for a number above n that has the same rest. */
    private static void belowN() {
        for (int bits : new int[] {497, 505, 513, 1025, 2041}) {
            Key key = new Key(bits, 3, bits);
            int size = key.size();
            signed("the number, bits " + bits, true, key, key::sign);
            for (int times = 1; times < 4; times++) {
                BigInteger more = key.n.multiply(BigInteger.valueOf(times));
                signed("n more, bits " + bits, false, key, body -> Key.octets(more.add(new BigInteger(1, key.sign(body))), size));
            }
        }
        Key key = Key.small(1);
        for (BigInteger number : new BigInteger[] {BigInteger.ZERO, ONE, key.n.subtract(ONE), key.n, key.n.add(ONE),
            ONE.shiftLeft(512).subtract(ONE)}) {
            signed("the number " + number, false, key, body -> Key.octets(number, 64));
        }
    }

    /** The form is odd here, so n may be made of it: 2 to the power of e, or its opposite, leaves just the form. */
    private static void justBesideN() {
        Maker maker = unsigned(new Maker("leaf", LEAF, "root", LEAF));
        for (int serial = 2; !formOf(maker, 64).testBit(0); serial++) {
            maker = unsigned(new Maker("leaf", LEAF, "root", LEAF).serial(serial));
        }
        for (int size : new int[] {62, 63, 64, 65, 128, 255, 256}) {
            BigInteger form = formOf(maker, size);
            BigInteger two = BigInteger.TWO;
            int bits = 8 * size - 1;
            BigInteger most = ONE.shiftLeft(bits).add(form);
            beside("the opposite of 2 leaves the form", maker, most, bits, size, most.subtract(two));
            // Of 62 octets the next two would have fewer than 496 bits.
            if (size > 62) {
                beside("2 leaves the form", maker, ONE.shiftLeft(bits).subtract(form), bits, size, two);
                BigInteger less = ONE.shiftLeft(bits - 2).add(form);
                beside("the opposite of 2, with room above n", maker, less, bits - 2, size, less.subtract(two));
            }
        }
    }

    /** Just one of the numbers beside 0 and n is the right one, and n more than that is none. */
    private static void beside(String what, Maker maker, BigInteger n, int e, int size, BigInteger right) {
        Node key = Node.seq(Node.integer(n), Node.integer(e));
        for (int step = -3; step <= 3; step++) {
            for (BigInteger from : new BigInteger[] {BigInteger.ZERO, n, n.add(n)}) {
                BigInteger number = from.add(BigInteger.valueOf(step));
                if (number.signum() >= 0 && number.bitLength() <= 8 * size) {
                    boolean due = number.equals(right);
                    CHECK.same(what + ", octets " + size + ", step " + step,
                        isSigned(maker, key, Key.octets(number, size)) ? 1 : 0, due ? 1 : 0);
                }
            }
        }
    }

    private static BigInteger formOf(Maker maker, int size) {
        return new BigInteger(1, Key.form(maker.body.write(), size));
    }

    /** Rows of 0 and of 1 among the bits of n, where what is carried or lent goes furthest. */
    private static void specialModuli() {
        for (int power : new int[] {496, 511, 512, 544, 768}) {
            special("just above a power of 2", ONE.shiftLeft(power).nextProbablePrime());
        }
        for (int power : new int[] {496, 505, 512, 544, 768}) {
            BigInteger below = ONE.shiftLeft(power).subtract(ONE);
            while (!below.isProbablePrime(50)) {
                below = below.subtract(BigInteger.TWO);
            }
            special("just below a power of 2", below);
        }
        for (int power : new int[] {701, 1709}) {
            special("01 again and again", ONE.shiftLeft(power).add(ONE).divide(BigInteger.valueOf(3)));
        }
        special("a prime of 521 ones", ONE.shiftLeft(521).subtract(ONE));
    }

    private static void special(String what, BigInteger prime) {
        for (long exponent : new long[] {3, 5, 7, 65537, (1L << 31) - 1}) {
            if (prime.subtract(ONE).gcd(BigInteger.valueOf(exponent)).equals(ONE)) {
                Key key = new Key(prime, exponent);
                signed("n " + what + ", e = " + exponent, true, key, key::sign);
                Key other = Key.small(1);
                signed("n " + what + ", of another", false, key, body -> Key.octets(new BigInteger(1, other.sign(body)),
                    key.size()));
            }
        }
    }

    /** n of 62 octets has room for eight and no more; no n has room for fewer. */
    private static void eightFfAtLeast() {
        for (int size = 62; size < 66; size++) {
            Key key = new Key(8 * size, 65537, size);
            int ones = size - 54;
            signed("FF: " + ones, true, key, key::sign);
            signed("one FF less and a 0 in front", false, key,
                body -> key.raise(join(new byte[1], Key.form(body, key.size() - 1))));
            signed("one FF less and an octet behind", false, key,
                body -> key.raise(join(Key.form(body, key.size() - 1), new byte[1])));
        }
        Key large = new Key(1024, 3, 9);
        signed("eight FF and octets behind", false, large, body -> large.raise(Arrays.copyOf(Key.form(body, 62), 128)));
        signed("eight FF and 0 in front", false, large, body -> large.raise(join(new byte[66], Key.form(body, 62))));
    }

    private static void everyOctetOfTheForm() {
        for (int bits : new int[] {496, 505}) {
            Key key = new Key(bits, 65537, bits + 1);
            for (int at = 0; at < key.size(); at++) {
                for (int change : new int[] {1, 2, 0x80, 0xFF}) {
                    int place = at;
                    byte[] form = Key.form(new byte[0], key.size());
                    form[place] ^= (byte) change;
                    if (new BigInteger(1, form).compareTo(key.n) < 0) {
                        signed("octet " + at + " changed by " + change, false, key, body -> {
                            byte[] changed = Key.form(body, key.size());
                            changed[place] ^= (byte) change;
                            return key.raise(changed);
                        });
                    }
                }
            }
        }
    }

    private static void otherForms() {
        Key key = new Key(1024, 65537, 5);
        signed("the form", true, key, body -> key.raise(Key.form(body, 128)));
        signed("a 0 among the FF", false, key, body -> {
            byte[] form = Key.form(body, 128);
            form[20] = 0;
            return key.raise(form);
        });
        signed("no 0 behind the FF", false, key, body -> {
            byte[] form = Key.form(body, 128);
            form[128 - 52] = (byte) 255;
            return key.raise(form);
        });
        signed("02 for 01", false, key, body -> {
            byte[] form = Key.form(body, 128);
            form[1] = 2;
            return key.raise(form);
        });
        signed("the prefix without NULL", false, key, body -> {
            byte[] form = Key.form(body, 128);
            byte[] prefix = new BigInteger("302F300B0609608648016503040201" + "0420", 16).toByteArray();
            Arrays.fill(form, 2, 128 - 32, (byte) 255);
            System.arraycopy(prefix, 0, form, 128 - 32 - prefix.length, prefix.length);
            form[128 - 33 - prefix.length] = 0;
            return key.raise(form);
        });
        signed("the form itself", false, key, body -> Key.form(body, 128));
        signed("n less the signature", false, key,
            body -> Key.octets(key.n.subtract(new BigInteger(1, key.sign(body))), 128));
    }

    private static void fromItsTagOn() {
        Key key = new Key(768, 17, 6);
        signed("TBS from its TAG on", true, key, key::sign);
        signed("TBS without its TAG", false, key, body -> key.sign(Arrays.copyOfRange(body, 1, body.length)));
        signed("what is in TBS", false, key, body -> key.sign(Arrays.copyOfRange(body, body.length < 130 ? 2 : 3, body.length)));
        signed("one octet less", false, key, body -> key.sign(Arrays.copyOf(body, body.length - 1)));
        signed("one octet more", false, key, body -> key.sign(Arrays.copyOf(body, body.length + 1)));
        signed("TBS and ALG", false, key, body -> key.sign(join(body, Maker.alg(11).write())));
        signed("nothing", false, key, body -> key.sign(new byte[0]));
    }

    private static void smallestAndLargestExponent() {
        for (long exponent : new long[] {3, 5, 7, (1L << 30) - 1, (1L << 30) + 1, (1L << 31) - 3, (1L << 31) - 1}) {
            Key key = new Key(512, exponent, (int) exponent);
            Key other = new Key(512, 65537, (int) exponent);
            signed("e = " + exponent, true, key, key::sign);
            signed("another key than e = " + exponent, false, key, other::sign);
        }
    }

    /** Whose SUBJECT it is does not count, nor what else is WRONG or right about it: just n and e. */
    private static void byAnyOfTheSameKey() {
        Key key = Key.small(1);
        Store store = new Store();
        store.certificate(new Maker("leaf", LEAF, "root", key));
        store.certificate(new Maker("somebody", key, "nobody", Key.small(3)).from("500101000000Z", "500101000000Z"));
        Maker sameN = new Maker("root", key, "root", key);
        sameN.publicKey = Reading.publicKey(Node.integer(key.n), Node.integer(3));
        store.certificate(sameN);
        CHECK.yes("by the same key", store.x.signed(false, 0, 1));
        CHECK.no("by the same n with another e", store.x.signed(false, 0, 2));
        CHECK.no("by itself", store.x.signed(false, 0, 0));
    }
}
