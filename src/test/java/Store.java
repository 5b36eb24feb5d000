/** A TrustChain with calls that take a text at once. */
final class Store {
    final TrustChain x = new TrustChain();

    /** Feeds the text, with zeros behind it up to the next 20 octets. */
    int feed(byte[] text) {
        int size = 0;
        for (int at = 0; at < text.length; at += 20) {
            size = x.feed(word(text, at), word(text, at + 4), word(text, at + 8), word(text, at + 12),
                word(text, at + 16));
        }
        return size;
    }

    private static int word(byte[] text, int at) {
        int word = 0;
        for (int i = at; i < at + 4; i++) {
            word = word << 8 | (i < text.length ? text[i] & 255 : 0);
        }
        return word;
    }

    int certificate(byte[] text, boolean trusted) {
        feed(text);
        return x.certificate(text.length, trusted);
    }

    int certificate(Maker maker) {
        return certificate(maker.certificate(), false);
    }

    int trusted(Maker maker) {
        return certificate(maker.certificate(), true);
    }

    int list(byte[] text) {
        feed(text);
        return x.list(text.length);
    }

    int list(Maker maker) {
        return list(maker.list());
    }
}
