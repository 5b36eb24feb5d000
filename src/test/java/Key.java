import java.io.ByteArrayOutputStream;
import java.math.BigInteger;
import java.security.MessageDigest;
import java.security.NoSuchAlgorithmException;
import java.util.HashMap;
import java.util.Map;
import java.util.Random;

/** An RSA key, the same one for the same size, exponent and seed. */
final class Key {
    private static final Map<Integer, Key> SMALL = new HashMap<>();

    final BigInteger n;
    final BigInteger e;
    private final BigInteger d;

    Key(int bits, long exponent, int seed) {
        Random random = new Random(seed);
        e = BigInteger.valueOf(exponent);
        BigInteger p;
        BigInteger q;
        BigInteger turn;
        do {
            p = BigInteger.probablePrime(bits - bits / 2, random);
            q = BigInteger.probablePrime(bits / 2, random);
            turn = p.subtract(BigInteger.ONE).multiply(q.subtract(BigInteger.ONE));
        } while (p.multiply(q).bitLength() != bits || !turn.gcd(e).equals(BigInteger.ONE) || p.equals(q));
        n = p.multiply(q);
        d = e.modInverse(turn);
    }

    /** n needs not be made of two primes: of one alone the power that turns e back is known as well. */
    Key(BigInteger prime, long exponent) {
        n = prime;
        e = BigInteger.valueOf(exponent);
        d = e.modInverse(prime.subtract(BigInteger.ONE));
    }

    static Key small(int seed) {
        return SMALL.computeIfAbsent(seed, some -> new Key(512, 65537, some));
    }

    int size() {
        return (n.bitLength() + 7) / 8;
    }

    Node node() {
        return Node.seq(Node.integer(n), Node.integer(e));
    }

    static byte[] sha256(byte[] text) {
        try {
            return MessageDigest.getInstance("SHA-256").digest(text);
        } catch (NoSuchAlgorithmException absent) {
            throw new IllegalStateException(absent);
        }
    }

    /** 00 01 FF .. FF 00, the prefix and the hash, so many octets. */
    static byte[] form(byte[] text, int size) {
        byte[] prefix = new BigInteger("3031300D060960864801650304020105000420", 16).toByteArray();
        ByteArrayOutputStream out = new ByteArrayOutputStream();
        out.write(0);
        out.write(1);
        for (int i = 0; i < size - 54; i++) {
            out.write(255);
        }
        out.write(0);
        out.writeBytes(prefix);
        out.writeBytes(sha256(text));
        return out.toByteArray();
    }

    byte[] sign(byte[] text) {
        return raise(form(text, size()));
    }

    byte[] raise(byte[] form) {
        return octets(new BigInteger(1, form).modPow(d, n), size());
    }

    static byte[] octets(BigInteger number, int size) {
        byte[] result = new byte[size];
        byte[] digits = number.toByteArray();
        for (int i = 0; i < digits.length; i++) {
            int to = size - digits.length + i;
            if (to >= 0) {
                result[to] = digits[i];
            }
        }
        return result;
    }
}
