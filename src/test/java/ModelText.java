import java.math.BigInteger;
import java.nio.ByteBuffer;
import java.nio.charset.CharacterCodingException;
import java.nio.charset.StandardCharsets;
import java.time.DateTimeException;
import java.time.LocalDateTime;
import java.time.ZoneOffset;
import java.util.ArrayList;
import java.util.Arrays;
import java.util.HashSet;
import java.util.HexFormat;
import java.util.List;
import java.util.Set;

/** What Terms 1 and 2 say of a text, told a second time by other means than the class has, to compare it with. */
final class ModelText {
    /** Thrown where something is WRONG. */
    static final class Wrong extends RuntimeException {
        private static final long serialVersionUID = 1;
        final int place;

        Wrong(int place) {
            this.place = place;
        }
    }

    private record Element(int tag, int place, int from, int to) {
    }

    byte[] signedOctets;
    byte[] signature;
    BigInteger serial;
    int serialOctets;
    List<String> issuer;
    List<String> subject;
    long first;
    long last;
    BigInteger n;
    BigInteger e;
    boolean ca = false;
    int length = -1;
    int usage = -1;
    int extensions = 0;
    int matters = 0;
    String ownKey;
    String issuersKey;
    final List<String> dns = new ArrayList<>();
    final List<List<String>> directories = new ArrayList<>();
    final List<String> permittedDns = new ArrayList<>();
    final List<List<String>> permittedDirectories = new ArrayList<>();
    final List<String> excludedDns = new ArrayList<>();
    final List<List<String>> excludedDirectories = new ArrayList<>();
    final List<BigInteger> entries = new ArrayList<>();
    private final byte[] text;

    private ModelText(byte[] text) {
        this.text = text;
    }

    static ModelText certificate(byte[] text) {
        ModelText read = new ModelText(text);
        read.whole(false);
        return read;
    }

    static ModelText list(byte[] text) {
        ModelText read = new ModelText(text);
        read.whole(true);
        return read;
    }

    /** The elements within one, one behind the other. */
    private final class Row {
        private int at;
        private final int end;

        Row(int from, int end) {
            this.at = from;
            this.end = end;
        }

        boolean sees(int tag) {
            return at < end && (text[at] & 255) == tag;
        }

        Element next(int... tags) {
            if (at == end) {
                throw new Wrong(end);
            }
            Element element = header();
            if (element == null || Arrays.stream(tags).noneMatch(tag -> tag == element.tag)) {
                throw new Wrong(at);
            }
            at = element.to;
            return element;
        }

        Row into(int tag) {
            Element element = next(tag);
            return new Row(element.from, element.to);
        }

        void done() {
            if (at < end) {
                throw new Wrong(at);
            }
        }

        private Element header() {
            int left = end - at;
            if (left < 2) {
                return null;
            }
            int octet = text[at + 1] & 255;
            int more = octet < 128 ? 0 : octet - 128;
            if (octet == 128 || more > 2 || left < 2 + more) {
                return null;
            }
            int size = octet < 128 ? octet : new BigInteger(1, Arrays.copyOfRange(text, at + 2, at + 2 + more)).intValue();
            boolean shortest = more == (size < 128 ? 0 : size < 256 ? 1 : 2);
            int from = at + 2 + more;
            return shortest && size <= end - from ? new Element(text[at] & 255, at, from, from + size) : null;
        }
    }

    private byte[] octets(Element element) {
        return Arrays.copyOfRange(text, element.from, element.to);
    }

    private String latin(Element element) {
        return new String(octets(element), StandardCharsets.ISO_8859_1);
    }

    private static String hex(byte[] octets) {
        return HexFormat.of().formatHex(octets);
    }

    private static void due(boolean stands, Element element) {
        if (!stands) {
            throw new Wrong(element.place);
        }
    }

    private BigInteger number(Element element) {
        byte[] octets = octets(element);
        due(octets.length > 0 && Arrays.equals(new BigInteger(octets).toByteArray(), octets), element);
        return new BigInteger(octets);
    }

    private BigInteger number(Element element, long least, long most) {
        BigInteger number = number(element);
        boolean inside = number.compareTo(BigInteger.valueOf(least)) >= 0 && number.compareTo(BigInteger.valueOf(most)) <= 0;
        due(inside, element);
        return number;
    }

    private BigInteger serial(Row row) {
        Element element = row.next(0x02);
        BigInteger number = number(element);
        due(number.signum() > 0 && element.to - element.from <= 20, element);
        return number;
    }

    private void isTrue(Element element) {
        due(hex(octets(element)).equals("ff"), element);
    }

    private String oid(Row row) {
        Element element = row.next(0x06);
        String written = hex(octets(element));
        due(written.matches("((8[1-9a-f]|[9a-f].)([89a-f].)*[0-7].|[0-7].)+"), element);
        return written;
    }

    private void algorithm(Row around, String id) {
        Row row = around.into(0x30);
        Element element = row.next(0x06);
        due(hex(octets(element)).equals("2a864886f70d0101" + id), element);
        Element nothing = row.next(0x05);
        due(nothing.from == nothing.to, nothing);
        row.done();
    }

    /** The octets of a BIT STRING all of whose bits are used. */
    private Row bits(Row around) {
        Element element = around.next(0x03);
        due(element.to > element.from && text[element.from] == 0, element);
        return new Row(element.from + 1, element.to);
    }

    private long time(Row row) {
        Element element = row.next(0x17, 0x18);
        String written = latin(element);
        due(written.matches(element.tag == 0x17 ? "[0-9]{12}Z" : "[0-9]{14}Z"), element);
        if (element.tag == 0x17) {
            written = (written.charAt(0) >= '5' ? "19" : "20") + written;
        }
        int[] parts = {Integer.parseInt(written.substring(0, 4)), 0, 0, 0, 0, 0};
        for (int i = 1; i < 6; i++) {
            parts[i] = Integer.parseInt(written.substring(2 + 2 * i, 4 + 2 * i));
        }
        due(element.tag == 0x17 || parts[0] >= 2050, element);
        try {
            return LocalDateTime.of(parts[0], parts[1], parts[2], parts[3], parts[4], parts[5]).toEpochSecond(ZoneOffset.UTC);
        } catch (DateTimeException noSuch) {
            throw new Wrong(element.place);
        }
    }

    private void string(Row row) {
        Element element = row.next(0x13, 0x0C, 0x16);
        due(element.to > element.from, element);
        if (element.tag == 0x13) {
            due(latin(element).matches("[A-Za-z0-9 '()+,./:=?-]*"), element);
        } else if (element.tag == 0x16) {
            due(latin(element).chars().allMatch(octet -> octet < 128), element);
        } else {
            try {
                StandardCharsets.UTF_8.newDecoder().decode(ByteBuffer.wrap(octets(element)));
            } catch (CharacterCodingException bad) {
                throw new Wrong(element.place);
            }
        }
    }

    /** The PARTS of a NAME, each as it is written. */
    private List<String> name(Row around) {
        List<String> parts = new ArrayList<>();
        Row row = around.into(0x30);
        while (row.at < row.end) {
            int from = row.at;
            Row set = row.into(0x31);
            Row pair = set.into(0x30);
            oid(pair);
            string(pair);
            pair.done();
            set.done();
            parts.add(hex(Arrays.copyOfRange(text, from, row.at)));
        }
        return parts;
    }

    private List<String> fullName(Row around) {
        int place = around.at;
        List<String> parts = name(around);
        if (parts.isEmpty()) {
            throw new Wrong(place);
        }
        return parts;
    }

    private void whole(boolean list) {
        Row outside = new Row(0, text.length);
        Row row = outside.into(0x30);
        int from = row.at;
        Row body = row.into(0x30);
        if (list) {
            listBody(body);
        } else {
            certificateBody(body);
        }
        body.done();
        signedOctets = Arrays.copyOfRange(text, from, row.at);
        algorithm(row, "0b");
        Row rest = bits(row);
        signature = Arrays.copyOfRange(text, rest.at, rest.end);
        row.done();
        outside.done();
    }

    private void certificateBody(Row body) {
        Row version = body.into(0xA0);
        number(version.next(0x02), 2, 2);
        version.done();
        serial = serial(body);
        serialOctets = serial.toByteArray().length;
        algorithm(body, "0b");
        issuer = fullName(body);
        Row times = body.into(0x30);
        first = time(times);
        last = time(times);
        times.done();
        subject = name(body);
        key(body.into(0x30));
        if (body.sees(0xA3)) {
            Row around = body.into(0xA3);
            extensions(around, "certificate");
            around.done();
        }
    }

    private void key(Row row) {
        algorithm(row, "01");
        Row inBits = bits(row);
        Row key = inBits.into(0x30);
        Element modulus = key.next(0x02);
        n = number(modulus);
        due(n.signum() > 0 && n.testBit(0) && n.bitLength() >= 496 && n.bitLength() <= 2048, modulus);
        Element exponent = key.next(0x02);
        e = number(exponent, 3, Integer.MAX_VALUE);
        due(e.testBit(0), exponent);
        key.done();
        inBits.done();
        row.done();
    }

    private void listBody(Row body) {
        number(body.next(0x02), 1, 1);
        algorithm(body, "0b");
        issuer = fullName(body);
        first = time(body);
        last = time(body);
        if (body.sees(0x30)) {
            Row row = body.into(0x30);
            do {
                Row entry = row.into(0x30);
                entries.add(serial(entry));
                time(entry);
                if (entry.sees(0x30)) {
                    extensions(entry, "entry");
                }
                entry.done();
            } while (row.at < row.end);
        }
        if (body.sees(0xA0)) {
            Row around = body.into(0xA0);
            extensions(around, "list");
            around.done();
        }
    }

    private void extensions(Row around, String of) {
        Row row = around.into(0x30);
        Set<String> kinds = new HashSet<>();
        do {
            int place = row.at;
            Row extension = row.into(0x30);
            String kind = oid(extension);
            boolean critical = extension.sees(0x01);
            if (critical) {
                isTrue(extension.next(0x01));
            }
            Element octets = extension.next(0x04);
            Row inside = new Row(octets.from, octets.to);
            if (known(of, kind, inside)) {
                inside.done();
            } else if (critical) {
                matters++;
            }
            extension.done();
            if (!kinds.add(kind)) {
                throw new Wrong(place);
            }
            extensions++;
        } while (row.at < row.end);
    }

    private boolean known(String of, String kind, Row row) {
        switch (of + " " + kind) {
            case "certificate 551d13" -> basic(row.into(0x30));
            case "certificate 551d0f" -> usage(row.next(0x03));
            case "certificate 551d11" -> names(row.into(0x30));
            case "certificate 551d1e" -> constraints(row.into(0x30));
            case "certificate 551d0e" -> ownKey = some(row.next(0x04));
            case "certificate 551d23", "list 551d23" -> issuersKey(row.into(0x30));
            case "list 551d14" -> {
                Element element = row.next(0x02);
                due(number(element).signum() >= 0 && element.to - element.from <= 20, element);
            }
            case "entry 551d15" -> {
                Element element = row.next(0x0A);
                due(number(element, 0, 10).intValue() != 7, element);
            }
            default -> {
                return false;
            }
        }
        return true;
    }

    private String some(Element element) {
        due(element.to > element.from, element);
        return hex(octets(element));
    }

    private void issuersKey(Row row) {
        issuersKey = some(row.next(0x80));
        row.done();
    }

    private void basic(Row row) {
        ca = row.sees(0x01);
        if (ca) {
            isTrue(row.next(0x01));
        }
        if (ca && row.sees(0x02)) {
            length = number(row.next(0x02), 0, 255).intValue();
        }
        row.done();
    }

    private void usage(Element element) {
        byte[] octets = octets(element);
        due((octets.length == 2 || octets.length == 3) && octets[0] >= 0 && octets[0] <= 7, element);
        StringBuilder bits = new StringBuilder();
        for (int i = 1; i < octets.length; i++) {
            bits.append(Integer.toBinaryString(octets[i] & 255 | 256).substring(1));
        }
        int used = bits.length() - octets[0];
        due(bits.lastIndexOf("1") == used - 1, element);
        usage = Integer.parseInt(bits.reverse().toString(), 2);
    }

    private String visible(Element element, String form) {
        String written = latin(element);
        due(written.matches(form), element);
        return written;
    }

    private void names(Row row) {
        do {
            if (row.sees(0xA4)) {
                Row around = row.into(0xA4);
                directories.add(name(around));
                around.done();
                continue;
            }
            Element element = row.next(0x82, 0x81, 0x87);
            if (element.tag == 0x87) {
                due(List.of(4, 16).contains(element.to - element.from), element);
            } else {
                String name = visible(element, "[!-~]+");
                if (element.tag == 0x82) {
                    dns.add(name);
                }
            }
        } while (row.at < row.end);
    }

    private void constraints(Row row) {
        if (row.at == row.end) {
            throw new Wrong(row.end);
        }
        if (row.sees(0xA0)) {
            trees(row.into(0xA0), permittedDns, permittedDirectories);
        }
        if (row.sees(0xA1)) {
            trees(row.into(0xA1), excludedDns, excludedDirectories);
        }
        row.done();
    }

    private void trees(Row row, List<String> names, List<List<String>> nodes) {
        do {
            Row tree = row.into(0x30);
            if (tree.sees(0xA4)) {
                Row around = tree.into(0xA4);
                nodes.add(name(around));
                around.done();
            } else {
                names.add(visible(tree.next(0x82), "[!-~]*"));
            }
            tree.done();
        } while (row.at < row.end);
    }
}
