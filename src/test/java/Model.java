import java.math.BigInteger;
import java.nio.ByteBuffer;
import java.nio.charset.StandardCharsets;
import java.util.ArrayList;
import java.util.Arrays;
import java.util.HashMap;
import java.util.List;
import java.util.Locale;
import java.util.Map;

/** The calls of the document, told a second time by other means (recursion, BigInteger, texts), to compare with. */
final class Model {
    private static final class Held {
        final ModelText text;
        boolean trusted;

        Held(ModelText text, boolean trusted) {
            this.text = text;
            this.trusted = trusted;
        }
    }

    private final List<Held> certificates = new ArrayList<>();
    private final List<ModelText> lists = new ArrayList<>();
    private final Map<ModelText, Map<ModelText, Boolean>> asked = new HashMap<>();
    private ByteBuffer fed = ByteBuffer.allocate(2060);
    private int wrong = -1;
    private List<Integer> chain = List.of();
    private int chains = 0;
    private int faultAt = -1;
    private int verdict;
    private int puts;
    private int depth;
    private long time;
    private boolean known;

    int feed(int a, int b, int c, int d, int e) {
        if (fed.remaining() < 20) {
            throw new IndexOutOfBoundsException();
        }
        return fed.putInt(a).putInt(b).putInt(c).putInt(d).putInt(e).position();
    }

    private byte[] take(int n, int stored, int most) {
        if (n < 0 || n > 2048 || n > fed.position() || stored == most) {
            throw new IndexOutOfBoundsException();
        }
        byte[] text = Arrays.copyOf(fed.array(), n);
        fed = ByteBuffer.allocate(2060);
        wrong = -1;
        return text;
    }

    private IllegalArgumentException refused(ModelText.Wrong at) {
        wrong = at.place;
        return new IllegalArgumentException();
    }

    int certificate(int n, boolean trusted) {
        byte[] text = take(n, certificates.size(), 16);
        try {
            certificates.add(new Held(ModelText.certificate(text), trusted));
        } catch (ModelText.Wrong at) {
            throw refused(at);
        }
        return certificates.size() - 1;
    }

    int list(int n) {
        byte[] text = take(n, lists.size(), 8);
        try {
            lists.add(ModelText.list(text));
        } catch (ModelText.Wrong at) {
            throw refused(at);
        }
        return lists.size() - 1;
    }

    int wrong() {
        return wrong;
    }

    private static <T> T one(List<T> of, int number) {
        if (number < 0 || number >= of.size()) {
            throw new IndexOutOfBoundsException();
        }
        return of.get(number);
    }

    boolean trust(int c, boolean trusted) {
        Held held = one(certificates, c);
        boolean was = held.trusted;
        held.trusted = trusted;
        return was;
    }

    long part(int c, int what) {
        if (what < 0 || what > 11) {
            throw new IllegalArgumentException();
        }
        ModelText text = one(certificates, c).text;
        long[] parts = {text.first, text.last, text.n.bitLength(), text.e.longValue(), text.ca ? 1 : 0, text.length,
            text.usage, text.dns.size(), text.subject.size(), text.extensions, text.matters, text.serialOctets};
        return parts[what];
    }

    long listPart(int l, int what) {
        if (what < 0 || what > 3) {
            throw new IllegalArgumentException();
        }
        ModelText text = one(lists, l);
        return new long[] {text.first, text.last, text.entries.size(), text.matters}[what];
    }

    boolean signed(boolean list, int c, int by) {
        ModelText paper = list ? one(lists, c) : one(certificates, c).text;
        return isSigned(paper, one(certificates, by).text);
    }

    int digest(int c, int word) {
        ByteBuffer hash = ByteBuffer.wrap(Key.sha256(one(certificates, c).text.signedOctets));
        if (word < 0 || word > 7) {
            throw new IndexOutOfBoundsException();
        }
        return hash.getInt(4 * word);
    }

    int chain(int k) {
        return one(chain, k);
    }

    int count(int what) {
        if (what < 0 || what > 4) {
            throw new IllegalArgumentException();
        }
        return new int[] {certificates.size(), lists.size(), chains, faultAt, fed.position()}[what];
    }

    boolean covers(int c, long a, long b, long d, long e) {
        List<String> names = one(certificates, c).text.dns;
        byte[] octets = ByteBuffer.allocate(32).putLong(a).putLong(b).putLong(d).putLong(e).array();
        String all = new String(octets, StandardCharsets.ISO_8859_1).toLowerCase(Locale.ROOT);
        int end = all.indexOf(0);
        if (end < 0) {
            return false;
        }
        String host = all.substring(0, end);
        String wild = host.contains(".") ? "*." + host.split("\\.", 2)[1] : host;
        return names.stream().map(name -> name.toLowerCase(Locale.ROOT)).anyMatch(
            name -> name.equals(host) || name.equals(wild));
    }

    private boolean isSigned(ModelText paper, ModelText signer) {
        return asked.computeIfAbsent(paper, some -> new HashMap<>()).computeIfAbsent(signer, some -> verifies(paper, some));
    }

    private static boolean verifies(ModelText paper, ModelText signer) {
        int size = (signer.n.bitLength() + 7) / 8;
        BigInteger number = new BigInteger(1, paper.signature);
        if (paper.signature.length != size || number.compareTo(signer.n) >= 0) {
            return false;
        }
        byte[] left = Key.octets(number.modPow(signer.e, signer.n), size);
        return Arrays.equals(left, Key.form(paper.signedOctets, size));
    }

    int validate(int target, long atTime, int deepest, boolean knownWanted) {
        if (deepest < 1 || deepest > 16) {
            throw new IllegalArgumentException();
        }
        one(certificates, target);
        time = atTime;
        depth = deepest;
        known = knownWanted;
        verdict = 10;
        chain = List.of();
        chains = 0;
        faultAt = -1;
        puts = 0;
        look(List.of(), target);
        return verdict;
    }

    /** Puts one on the way, and looks on from there; true if no further one is to be looked at. */
    private boolean look(List<Integer> before, int number) {
        puts++;
        List<Integer> way = new ArrayList<>(before);
        way.add(number);
        Held last = certificates.get(number);
        if (last.trusted) {
            return looked(way);
        }
        for (int next = 0; next < certificates.size() && way.size() < depth; next++) {
            if (puts == 1000) {
                return true;
            }
            if (!way.contains(next) && follows(certificates.get(next).text, last.text) && look(way, next)) {
                return true;
            }
        }
        return false;
    }

    private static boolean follows(ModelText upper, ModelText lower) {
        boolean keys = upper.ownKey == null || lower.issuersKey == null || upper.ownKey.equals(lower.issuersKey);
        return keys && upper.subject.equals(lower.issuer);
    }

    private boolean looked(List<Integer> way) {
        chains++;
        List<ModelText> papers = way.stream().map(number -> certificates.get(number).text).toList();
        int fault = 0;
        int at = papers.size() - 1;
        while (fault == 0 && at > 0) {
            at--;
            fault = fault(papers, at);
        }
        if (fault == 0 || chains == 1) {
            verdict = fault;
            chain = way;
            faultAt = fault == 0 ? -1 : at;
        }
        return fault == 0;
    }

    private int fault(List<ModelText> way, int i) {
        ModelText one = way.get(i);
        ModelText issuer = way.get(i + 1);
        List<ModelText> above = way.subList(i + 1, way.size() - 1);
        List<ModelText> telling = lists.stream().filter(list -> tells(list, one, issuer)).toList();
        boolean[] faults = {
            !isSigned(one, issuer),
            time < one.first || time > one.last,
            telling.stream().anyMatch(list -> list.entries.contains(one.serial)),
            known && telling.isEmpty(),
            (i == 0 || !sameNames(one)) && above.stream().anyMatch(upper -> !allows(upper, one)),
            one.matters > 0,
            i > 0 && !one.ca,
            i > 0 && isTooLong(way, i),
            i > 0 && one.usage >= 0 && (one.usage & 32) == 0
        };
        for (int fault = 1; fault <= faults.length; fault++) {
            if (faults[fault - 1]) {
                return fault;
            }
        }
        return 0;
    }

    private static boolean sameNames(ModelText one) {
        return one.subject.equals(one.issuer);
    }

    private boolean tells(ModelText list, ModelText one, ModelText issuer) {
        return list.issuer.equals(one.issuer) && isSigned(list, issuer) && (issuer.usage < 0 || (issuer.usage & 64) != 0)
            && time >= list.first && time <= list.last && list.matters == 0;
    }

    private static boolean allows(ModelText upper, ModelText one) {
        List<List<String>> directories = new ArrayList<>(one.directories);
        if (!one.subject.isEmpty()) {
            directories.add(one.subject);
        }
        for (List<String> name : directories) {
            boolean permitted = upper.permittedDirectories.isEmpty()
                || upper.permittedDirectories.stream().anyMatch(tree -> isBeginning(tree, name));
            if (!permitted || upper.excludedDirectories.stream().anyMatch(tree -> isBeginning(tree, name))) {
                return false;
            }
        }
        for (String name : one.dns) {
            boolean permitted = upper.permittedDns.isEmpty()
                || upper.permittedDns.stream().anyMatch(tree -> isEnd(tree, name));
            if (!permitted || upper.excludedDns.stream().anyMatch(tree -> isEnd(tree, name))) {
                return false;
            }
        }
        return true;
    }

    private static boolean isBeginning(List<String> tree, List<String> name) {
        return tree.size() <= name.size() && name.subList(0, tree.size()).equals(tree);
    }

    private static boolean isEnd(String tree, String name) {
        String lowTree = tree.toLowerCase(Locale.ROOT);
        String lowName = name.toLowerCase(Locale.ROOT);
        return tree.isEmpty() || lowName.equals(lowTree) || lowName.endsWith("." + lowTree);
    }

    private static boolean isTooLong(List<ModelText> way, int i) {
        for (int j = i + 1; j < way.size() - 1; j++) {
            long between = way.subList(i, j).stream().filter(one -> !sameNames(one)).count();
            if (way.get(j).length >= 0 && way.get(j).length < between) {
                return true;
            }
        }
        return false;
    }
}
