/** All that an object answers and that no question changes, as one text. */
final class Picture {
    private Picture() {
    }

    static String of(TrustChain x) {
        return brief(x) + stored(x);
    }

    /** Without the two that a text changes, be it WRONG or not: wrong() and the octets that are fed. */
    static String butText(TrustChain x) {
        return verdict(x) + stored(x);
    }

    private static String stored(TrustChain x) {
        StringBuilder out = new StringBuilder();
        for (int c = 0; c < x.count(0); c++) {
            out.append("\ncertificate ").append(c).append(trusted(x, c) ? " trusted:" : ":");
            for (int what = 0; what < 12; what++) {
                out.append(' ').append(x.part(c, what));
            }
            for (int word = 0; word < 8; word++) {
                out.append(' ').append(x.digest(c, word));
            }
            for (int by = 0; by < x.count(0); by++) {
                out.append(' ').append(x.signed(false, c, by));
            }
        }
        for (int l = 0; l < x.count(1); l++) {
            out.append("\nlist ").append(l).append(':');
            for (int what = 0; what < 4; what++) {
                out.append(' ').append(x.listPart(l, what));
            }
            for (int by = 0; by < x.count(0); by++) {
                out.append(' ').append(x.signed(true, l, by));
            }
        }
        return out.toString();
    }

    /** Of a store with many in it: the counts, wrong(), the CHAIN, and a word of each digest. */
    static String brief(TrustChain x) {
        StringBuilder out = new StringBuilder(verdict(x));
        out.append(" wrong: ").append(x.wrong()).append(" fed: ").append(x.count(4)).append(" digests:");
        for (int c = 0; c < x.count(0); c++) {
            out.append(' ').append(x.digest(c, 0));
        }
        return out.toString();
    }

    private static String verdict(TrustChain x) {
        StringBuilder out = new StringBuilder("counts:");
        for (int what = 0; what < 4; what++) {
            out.append(' ').append(x.count(what));
        }
        out.append(" chain:");
        for (int k = 0; k < 17; k++) {
            try {
                out.append(' ').append(x.chain(k));
            } catch (IndexOutOfBoundsException none) {
                return out.append('.').toString();
            }
        }
        return out.toString();
    }

    private static boolean trusted(TrustChain x, int c) {
        boolean was = x.trust(c, true);
        x.trust(c, was);
        return was;
    }
}
