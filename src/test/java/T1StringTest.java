/** Terms 1: STRINGS. Every octet of the small ones, every code point of UTF8 and what lies just beside its forms. */
public final class T1StringTest {
    private static final int PRINTABLE = 0x13;
    private static final int UTF8 = 0x0C;
    private static final int IA5 = 0x16;
    private static final String SIGNS = "ABCDEFGHIJKLMNOPQRSTUVWXYZabcdefghijklmnopqrstuvwxyz0123456789 '()+,-./:=?";
    private static final Check CHECK = new Check();
    private static final Reading READING = new Reading(CHECK);

    public static void main(String[] args) {
        oneOctetAtLeast();
        otherTags();
        printable();
        ia5Below128();
        utf8OfOneOctet();
        everyCodePoint();
        noSurrogates();
        to10FFFF();
        theShortestForm();
        cutForms();
        octetsThatGoOn();
        CHECK.end();
    }

    private static void either(String what, boolean stands, int tag, int... octets) {
        Node string = Node.octets(tag, octets);
        READING.either(what, stands, string, Reading.withString(string));
    }

    private static void oneOctetAtLeast() {
        for (int tag : new int[] {PRINTABLE, UTF8, IA5}) {
            either("no octets of " + tag, false, tag);
            either("one octet of " + tag, true, tag, 'a');
            either("two octets of " + tag, true, tag, 'a', 'b');
            Node issuer = Node.octets(tag);
            Maker maker = Reading.certificate();
            maker.issuer = Node.seq(Maker.part("2.5.4.3", issuer));
            READING.at("no octets of " + tag + " in the ISSUER", issuer, maker);
        }
    }

    private static void otherTags() {
        for (int tag = 0; tag < 256; tag++) {
            either("a STRING of tag " + tag, tag == PRINTABLE || tag == UTF8 || tag == IA5, tag, 'a');
        }
    }

    private static void printable() {
        for (int octet = 0; octet < 256; octet++) {
            boolean stands = SIGNS.indexOf(octet) >= 0;
            either("PRINTABLE " + octet, stands, PRINTABLE, octet);
            either("PRINTABLE " + octet + " in front", stands, PRINTABLE, octet, 'a');
            either("PRINTABLE " + octet + " behind", stands, PRINTABLE, 'a', octet);
        }
    }

    private static void ia5Below128() {
        for (int octet = 0; octet < 256; octet++) {
            either("IA5 " + octet, octet < 128, IA5, octet);
            either("IA5 " + octet + " in front", octet < 128, IA5, octet, 'a');
            either("IA5 " + octet + " behind", octet < 128, IA5, 'a', octet);
        }
    }

    private static void utf8OfOneOctet() {
        for (int octet = 0; octet < 256; octet++) {
            either("UTF8 " + octet, octet < 128, UTF8, octet);
            either("UTF8 " + octet + " in front", octet < 128, UTF8, octet, 'a');
            either("UTF8 " + octet + " behind", octet < 128, UTF8, 'a', octet);
        }
    }

    /** A code point in a form of so many octets, be it the shortest or not. */
    private static int[] form(int point, int size) {
        int[] octets = new int[size];
        int rest = point;
        for (int i = size - 1; i > 0; i--) {
            octets[i] = 0x80 | rest & 0x3F;
            rest >>= 6;
        }
        octets[0] = size == 1 ? rest : (0xF00 >> size & 0xFF) | rest;
        return octets;
    }

    private static int shortest(int point) {
        return point < 0x80 ? 1 : point < 0x800 ? 2 : point < 0x10000 ? 3 : 4;
    }

    private static void everyCodePoint() {
        int[] octets = new int[1500];
        int filled = 0;
        for (int point = 0; point <= 0x10FFFF; point++) {
            if (point >= 0xD800 && point <= 0xDFFF) {
                continue;
            }
            for (int octet : form(point, shortest(point))) {
                octets[filled] = octet;
                filled++;
            }
            if (filled > 1490 || point == 0x10FFFF) {
                either("code points up to " + point, true, UTF8, java.util.Arrays.copyOf(octets, filled));
                filled = 0;
            }
        }
        for (int point : new int[] {0, 0x7F, 0x80, 0x7FF, 0x800, 0xD7FF, 0xE000, 0xFFFD, 0xFFFE, 0xFFFF, 0x10000, 0x3FFFF,
            0x40000, 0xFFFFF, 0x100000, 0x10FFFF}) {
            either("code point " + point, true, UTF8, form(point, shortest(point)));
        }
    }

    private static void noSurrogates() {
        for (int point = 0xD7F0; point < 0xE010; point++) {
            boolean surrogate = point >= 0xD800 && point <= 0xDFFF;
            either("code point " + point, !surrogate, UTF8, form(point, 3));
        }
        either("a pair of surrogates", false, UTF8, 0xED, 0xA0, 0x80, 0xED, 0xB0, 0x80);
    }

    private static void to10FFFF() {
        for (int point : new int[] {0x10FFFE, 0x10FFFF, 0x110000, 0x110001, 0x13FFFF, 0x140000, 0x1FFFFF}) {
            either("code point " + point, point <= 0x10FFFF, UTF8, form(point, 4));
        }
        for (int first = 0xF5; first < 0x100; first++) {
            for (int second : new int[] {0x80, 0x8F, 0x90, 0xBF}) {
                either("a first octet of " + first, false, UTF8, first, second, 0x80, 0x80);
                either("a first octet of " + first + ", one more", false, UTF8, first, second, 0x80, 0x80, 0x80);
                either("a first octet of " + first + ", two more", false, UTF8, first, second, 0x80, 0x80, 0x80, 0x80);
            }
        }
    }

    private static void theShortestForm() {
        int[][] edges = {{0, 2}, {1, 2}, {0x7F, 2}, {0x80, 2}, {0x7FF, 2}, {0, 3}, {0x7F, 3}, {0x80, 3}, {0x7FF, 3}, {0x800, 3},
            {0xFFFF, 3}, {0, 4}, {0x7F, 4}, {0x80, 4}, {0x7FF, 4}, {0x800, 4}, {0xD800, 4}, {0xFFFF, 4}, {0x10000, 4}};
        for (int[] edge : edges) {
            boolean stands = shortest(edge[0]) == edge[1];
            either("code point " + edge[0] + " in octets " + edge[1], stands, UTF8, form(edge[0], edge[1]));
        }
    }

    private static void cutForms() {
        for (int point : new int[] {0x80, 0x7FF, 0x800, 0xFFFF, 0x10000, 0x10FFFF}) {
            int[] whole = form(point, shortest(point));
            for (int size = 1; size < whole.length; size++) {
                int[] cut = java.util.Arrays.copyOf(whole, size);
                either("code point " + point + " cut to " + size, false, UTF8, cut);
                int[] behind = java.util.Arrays.copyOf(cut, size + 1);
                behind[size] = 'a';
                either("code point " + point + " cut to " + size + ", a letter behind", false, UTF8, behind);
                int[] again = java.util.Arrays.copyOf(cut, size + 2);
                again[size] = 0xC2;
                again[size + 1] = 0x80;
                either("code point " + point + " cut to " + size + ", another behind", false, UTF8, again);
            }
            int[] more = java.util.Arrays.copyOf(whole, whole.length + 1);
            more[whole.length] = 0x80;
            either("code point " + point + " and one more octet", false, UTF8, more);
        }
    }

    /** All but the first are 80 to BF. */
    private static void octetsThatGoOn() {
        for (int octet = 0; octet < 256; octet++) {
            boolean stands = octet >= 0x80 && octet <= 0xBF;
            either("C2 and " + octet, stands, UTF8, 0xC2, octet);
            either("E1 and " + octet, stands, UTF8, 0xE1, octet, 0x80);
            either("E1 80 and " + octet, stands, UTF8, 0xE1, 0x80, octet);
            either("E0 and " + octet, stands && octet >= 0xA0, UTF8, 0xE0, octet, 0x80);
            either("ED and " + octet, stands && octet < 0xA0, UTF8, 0xED, octet, 0x80);
            either("F0 and " + octet, stands && octet >= 0x90, UTF8, 0xF0, octet, 0x80, 0x80);
            either("F1 and " + octet, stands, UTF8, 0xF1, octet, 0x80, 0x80);
            either("F1 80 and " + octet, stands, UTF8, 0xF1, 0x80, octet, 0x80);
            either("F1 80 80 and " + octet, stands, UTF8, 0xF1, 0x80, 0x80, octet);
            either("F4 and " + octet, stands && octet < 0x90, UTF8, 0xF4, octet, 0x80, 0x80);
        }
    }
}
