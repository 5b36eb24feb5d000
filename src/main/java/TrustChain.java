import java.util.ArrayList;
import java.util.Arrays;

/** A store of X.509 certificates and lists of revoked ones, with path validation. README.md tells how it is used. */
public final class TrustChain {
    private static final int MOST_FED = 2060;
    private static final int FED_AT_ONCE = 20;
    private static final int LONGEST_TEXT = 2048;
    private static final int MOST_CERTIFICATES = 16;
    private static final int MOST_LISTS = 8;
    private static final int DEEPEST = 16;
    private static final int LONGEST_HOST = 32;
    private static final int HASH_WORDS = 8;
    private static final int LAST_PART = 11;
    private static final int LAST_LIST_PART = 3;
    private static final int NO_CHAIN = 10;
    private static final int NONE = -1;

    private final byte[] fed = new byte[MOST_FED];
    private final byte[] host = new byte[LONGEST_HOST];
    private final ArrayList<Certificate> certificates = new ArrayList<>();
    private final ArrayList<Paper> lists = new ArrayList<>();
    private final Sha256 sha = new Sha256();
    private final Rsa rsa = new Rsa();
    private final Search search = new Search();
    private final PathCheck check = new PathCheck();
    private final int[] found = new int[DEEPEST];
    private int foundSize = 0;
    private int chainsSeen = 0;
    private int faultPlace = NONE;
    private int fedSize = 0;
    private int wrongPlace = NONE;

    public TrustChain() {
    }

    public int feed(int a, int b, int c, int d, int e) throws IndexOutOfBoundsException {
        if (fedSize > MOST_FED - FED_AT_ONCE) {
            throw new IndexOutOfBoundsException("more than 2,060 octets");
        }
        takeWord(a);
        takeWord(b);
        takeWord(c);
        takeWord(d);
        takeWord(e);
        return fedSize;
    }

    public int certificate(int n, boolean trusted) throws IndexOutOfBoundsException, IllegalArgumentException {
        if (!isFed(n) || certificates.size() >= MOST_CERTIFICATES) {
            throw new IndexOutOfBoundsException("no such text, or no room");
        }
        CertificateReader reader = new CertificateReader(takeText(n));
        reader.readCertificate();
        wrongPlace = reader.wrongAt;
        if (wrongPlace >= 0) {
            throw new IllegalArgumentException("WRONG");
        }
        Certificate read = reader.result;
        sha.hash(read.body, read.hash);
        read.trusted = trusted;
        read.number = certificates.size();
        certificates.add(read);
        linkIssuers(read);
        return read.number;
    }

    public int list(int n) throws IndexOutOfBoundsException, IllegalArgumentException {
        if (!isFed(n) || lists.size() >= MOST_LISTS) {
            throw new IndexOutOfBoundsException("no such text, or no room");
        }
        ListReader reader = new ListReader(takeText(n));
        reader.readList();
        wrongPlace = reader.wrongAt;
        if (wrongPlace >= 0) {
            throw new IllegalArgumentException("WRONG");
        }
        sha.hash(reader.result.body, reader.result.hash);
        lists.add(reader.result);
        return lists.size() - 1;
    }

    public int wrong() {
        return wrongPlace;
    }

    public boolean trust(int c, boolean trusted) throws IndexOutOfBoundsException {
        if (!isStored(c)) {
            throw new IndexOutOfBoundsException("no such certificate");
        }
        Certificate one = certificates.get(c);
        boolean was = one.trusted;
        one.trusted = trusted;
        return was;
    }

    public long part(int c, int what) throws IllegalArgumentException, IndexOutOfBoundsException {
        if (what < 0 || what > LAST_PART) {
            throw new IllegalArgumentException("no such part");
        }
        if (!isStored(c)) {
            throw new IndexOutOfBoundsException("no such certificate");
        }
        return certificates.get(c).tell(what);
    }

    public long listPart(int l, int what) throws IllegalArgumentException, IndexOutOfBoundsException {
        if (what < 0 || what > LAST_LIST_PART) {
            throw new IllegalArgumentException("no such part");
        }
        if (!isListed(l)) {
            throw new IndexOutOfBoundsException("no such list");
        }
        Paper one = lists.get(l);
        switch (what) {
            case 0:
                return one.first;
            case 1:
                return one.last;
            case 2:
                return one.entries.size();
            default:
                return one.matters;
        }
    }

    public boolean signed(boolean list, int c, int by) throws IndexOutOfBoundsException {
        if (!isStored(by) || (list ? !isListed(c) : !isStored(c))) {
            throw new IndexOutOfBoundsException("no such certificate or list");
        }
        Paper paper = list ? lists.get(c) : certificates.get(c);
        return rsa.isSigned(paper, certificates.get(by));
    }

    public int digest(int c, int word) throws IndexOutOfBoundsException {
        if (!isStored(c) || word < 0 || word >= HASH_WORDS) {
            throw new IndexOutOfBoundsException("no such certificate or word");
        }
        return certificates.get(c).hash[word];
    }

    public int validate(int target, long time, int depth, boolean known)
            throws IllegalArgumentException, IndexOutOfBoundsException {
        if (depth < 1 || depth > DEEPEST) {
            throw new IllegalArgumentException("depth is not 1..16");
        }
        if (!isStored(target)) {
            throw new IndexOutOfBoundsException("no such certificate");
        }
        foundSize = 0;
        faultPlace = NONE;
        chainsSeen = 0;
        check.begin(time, known);
        int verdict = NO_CHAIN;
        boolean more = search.begin(certificates, certificates.get(target), depth);
        for (int n = 0; n < Search.MOST_PUT && more; n++) {
            int fault = check.faultOf(search.path, lists, rsa);
            chainsSeen++;
            if (fault == 0 || n == 0) {
                verdict = fault;
                faultPlace = check.faultPlace;
                keepPath();
            }
            more = fault != 0 && search.advance(certificates);
        }
        return verdict;
    }

    public int chain(int k) throws IndexOutOfBoundsException {
        if (k < 0 || k >= foundSize || k >= DEEPEST) {
            throw new IndexOutOfBoundsException("the chain has no such one");
        }
        return found[k];
    }

    public int count(int what) throws IllegalArgumentException {
        switch (what) {
            case 0:
                return certificates.size();
            case 1:
                return lists.size();
            case 2:
                return chainsSeen;
            case 3:
                return faultPlace;
            case 4:
                return fedSize;
            default:
                throw new IllegalArgumentException("no such count");
        }
    }

    public boolean covers(int c, long a, long b, long d, long e) throws IndexOutOfBoundsException {
        if (!isStored(c)) {
            throw new IndexOutOfBoundsException("no such certificate");
        }
        takeHost(0, a);
        takeHost(8, b);
        takeHost(16, d);
        takeHost(24, e);
        int length = 0;
        while (length < LONGEST_HOST && host[length] != 0) {
            length++;
        }
        return length < LONGEST_HOST && certificates.get(c).names.holdsHost(new Slice(host, 0, length));
    }

    private void takeWord(int word) {
        for (int shift = 24; shift >= 0; shift -= 8) {
            if (fedSize < MOST_FED) {
                fed[fedSize] = (byte) (word >>> shift);
                fedSize++;
            }
        }
    }

    private void takeHost(int from, long octets) {
        for (int i = 0; i < 8 && from + i < LONGEST_HOST; i++) {
            host[from + i] = (byte) (octets >>> (56 - 8 * i));
        }
    }

    private boolean isFed(int n) {
        return n >= 0 && n <= LONGEST_TEXT && n <= fedSize;
    }

    /** A copy, since what is stored points into its text for good while the row of the fed octets is used again. */
    private byte[] takeText(int n) {
        fedSize = 0;
        return Arrays.copyOf(fed, n < 0 ? 0 : n);
    }

    private boolean isStored(int c) {
        return c >= 0 && c < certificates.size();
    }

    private boolean isListed(int l) {
        return l >= 0 && l < lists.size();
    }

    /** Which ones may follow which never changes, so it is looked at once and not at every step of a search. */
    private void linkIssuers(Certificate added) {
        for (int n = 0; n < certificates.size(); n++) {
            Certificate other = certificates.get(n);
            if (added.mayFollow(other)) {
                other.issuers |= 1 << added.number;
            }
            if (other.mayFollow(added)) {
                added.issuers |= 1 << other.number;
            }
        }
    }

    private void keepPath() {
        foundSize = Math.min(search.path.size(), DEEPEST);
        for (int i = 0; i < foundSize; i++) {
            found[i] = search.path.get(i).number;
        }
    }

    /** Octets of a text, from one place up to (not with) another. */
    private static final class Slice {
        private final byte[] text;
        private final int from;
        private final int to;

        Slice(byte[] text, int from, int to) {
            this.text = text;
            this.from = from;
            this.to = to;
        }

        int length() {
            return to - from;
        }

        /** The octet at a place of the slice; -1 outside, so that no caller can reach beyond. */
        int at(int i) {
            int place = from + i;
            return i >= 0 && place >= 0 && place < to && place < text.length ? text[place] & 255 : NONE;
        }

        boolean same(Slice other) {
            return length() == other.length() && other.beginsWith(this);
        }

        boolean beginsWith(Slice start) {
            if (start.length() > length()) {
                return false;
            }
            for (int i = 0; i < start.length(); i++) {
                if (at(i) != start.at(i)) {
                    return false;
                }
            }
            return true;
        }

        /** Whether the last octets, so many of each, are the same, letters in either case. */
        boolean sharesTail(Slice other, int size) {
            if (size > length() || size > other.length()) {
                return false;
            }
            for (int i = 1; i <= size; i++) {
                if (lower(at(length() - i)) != lower(other.at(other.length() - i))) {
                    return false;
                }
            }
            return true;
        }

        int find(char wanted) {
            for (int i = 0; i < length(); i++) {
                if (at(i) == wanted) {
                    return i;
                }
            }
            return NONE;
        }

        /** As a number in two's complement; one of more than eight octets is told as -1, which is allowed nowhere. */
        long number() {
            if (length() > 8) {
                return NONE;
            }
            long value = at(0) >= 128 ? -1 : 0;
            for (int i = 0; i < length(); i++) {
                value = value << 8 | at(i);
            }
            return value;
        }

        private static int lower(int octet) {
            return octet >= 'A' && octet <= 'Z' ? octet + 32 : octet;
        }
    }

    /** DNS and directory names: those of a certificate, or those of the trees that it permits or excludes. */
    private static final class NameSet {
        private final ArrayList<Slice> dns = new ArrayList<>();
        private final ArrayList<Slice> directories = new ArrayList<>();

        boolean holdsDirectoryTreeOf(Slice name) {
            for (int i = 0; i < directories.size(); i++) {
                if (name.beginsWith(directories.get(i))) {
                    return true;
                }
            }
            return false;
        }

        boolean holdsDnsTreeOf(Slice name) {
            for (int i = 0; i < dns.size(); i++) {
                Slice tree = dns.get(i);
                int before = name.length() - tree.length() - 1;
                boolean reaches = before == NONE || name.at(before) == '.';
                if (tree.length() == 0 || reaches && name.sharesTail(tree, tree.length())) {
                    return true;
                }
            }
            return false;
        }

        boolean holdsHost(Slice name) {
            int dot = name.find('.');
            int rest = name.length() - dot - 1;
            for (int i = 0; i < dns.size(); i++) {
                Slice one = dns.get(i);
                if (one.length() == name.length() && one.sharesTail(name, name.length())) {
                    return true;
                }
                boolean isStar = one.length() == rest + 2 && one.at(0) == '*' && one.at(1) == '.';
                if (dot >= 0 && isStar && one.sharesTail(name, rest)) {
                    return true;
                }
            }
            return false;
        }
    }

    /** What is SIGNED. A LIST is just this; a CERTIFICATE has no entries, and more of its own. */
    private static class Paper {
        final int[] hash = new int[HASH_WORDS];
        final int[] signers = new int[MOST_CERTIFICATES];
        final ArrayList<Slice> entries = new ArrayList<>();
        Slice body;
        Slice signature;
        Slice issuer;
        long first = 0;
        long last = 0;
        int matters = 0;

        Paper(Slice nothing) {
            body = nothing;
            signature = nothing;
            issuer = nothing;
        }

        boolean isAt(long time) {
            return time >= first && time <= last;
        }

        boolean hasEntry(Slice serial) {
            for (int i = 0; i < entries.size(); i++) {
                if (entries.get(i).same(serial)) {
                    return true;
                }
            }
            return false;
        }
    }

    private static final class Certificate extends Paper {
        final NameSet names = new NameSet();
        final NameSet permitted = new NameSet();
        final NameSet excluded = new NameSet();
        Slice serial;
        Slice subject;
        Slice modulus;
        Slice ownKey;
        Slice issuerKey;
        int subjectParts = 0;
        int modulusBits = 0;
        int exponent = 0;
        boolean ca = false;
        int pathLength = NONE;
        int usage = NONE;
        int extensions = 0;
        boolean selfIssued = false;
        boolean trusted = false;
        int number = 0;
        int issuers = 0;

        Certificate(Slice nothing) {
            super(nothing);
            serial = nothing;
            subject = nothing;
            modulus = nothing;
            ownKey = nothing;
            issuerKey = nothing;
        }

        /** A key name is never empty where there is one, so an empty one stands for none. */
        boolean mayFollow(Certificate issued) {
            boolean keysTold = ownKey.length() > 0 && issued.issuerKey.length() > 0;
            return subject.same(issued.issuer) && (!keysTold || ownKey.same(issued.issuerKey));
        }

        boolean mayUse(int bit) {
            return usage < 0 || (usage >> bit & 1) == 1;
        }

        boolean allowsDirectory(Slice name) {
            boolean inside = permitted.directories.isEmpty() || permitted.holdsDirectoryTreeOf(name);
            return inside && !excluded.holdsDirectoryTreeOf(name);
        }

        boolean allowsDns(Slice name) {
            boolean inside = permitted.dns.isEmpty() || permitted.holdsDnsTreeOf(name);
            return inside && !excluded.holdsDnsTreeOf(name);
        }

        long tell(int what) {
            switch (what) {
                case 0:
                    return first;
                case 1:
                    return last;
                case 2:
                    return modulusBits;
                case 3:
                    return exponent;
                case 4:
                    return ca ? 1 : 0;
                case 5:
                    return pathLength;
                case 6:
                    return usage;
                case 7:
                    return names.dns.size();
                case 8:
                    return subjectParts;
                case 9:
                    return extensions;
                case 10:
                    return matters;
                default:
                    return serial.length();
            }
        }
    }

    /**
     * Reads DER from the front to the back. The first thing that is WRONG is kept; from then on every element
     * counts as empty and nothing moves, so that the callers need not ask after each step.
     */
    private abstract static class Reader {
        static final int BOOLEAN = 0x01;
        static final int INTEGER = 0x02;
        static final int BITS = 0x03;
        static final int OCTETS = 0x04;
        static final int NULL = 0x05;
        static final int OID = 0x06;
        static final int ENUMERATED = 0x0A;
        static final int UTF8 = 0x0C;
        static final int PRINTABLE = 0x13;
        static final int IA5 = 0x16;
        static final int UTC = 0x17;
        static final int GENERALIZED = 0x18;
        static final int SEQ = 0x30;
        static final int SET = 0x31;
        static final int A0 = 0xA0;
        static final int OWN_KEY = 14;
        static final int USAGE = 15;
        static final int NAMES = 17;
        static final int BASIC = 19;
        static final int LIST_NUMBER = 20;
        static final int REASON = 21;
        static final int CONSTRAINTS = 30;
        static final int ISSUER_KEY = 35;
        static final int LONGEST_SERIAL = 20;
        static final int SHA_WITH_RSA = 11;
        private static final int[] PKCS1 = {0x2A, 0x86, 0x48, 0x86, 0xF7, 0x0D, 0x01, 0x01};
        private static final int[] MONTH_STARTS = {0, 31, 59, 90, 120, 151, 181, 212, 243, 273, 304, 334, 365};
        private static final int DAYS_TO_1970 = 719527;

        final byte[] text;
        int place = 0;
        int start = 0;
        int wrongAt = NONE;
        int parts = 0;
        int matters = 0;
        int extensions = 0;
        private final ArrayList<Slice> kinds = new ArrayList<>();

        Reader(byte[] text) {
            this.text = text;
        }

        /** Reads what is in the OCTETS of an extension 2.5.29.kind; false if that kind is not known here. */
        abstract boolean readKnown(int kind, int end);

        int octet(int i) {
            return i >= 0 && i < text.length ? text[i] & 255 : NONE;
        }

        boolean more(int end) {
            return wrongAt < 0 && place < end;
        }

        boolean nextIs(int tag, int end) {
            return more(end) && octet(place) == tag;
        }

        void refuse(int where) {
            if (wrongAt < 0) {
                wrongAt = where;
            }
        }

        /** For what is said of the primitive element that was read just now. */
        void require(boolean stands) {
            if (!stands && wrongAt < 0) {
                wrongAt = start;
            }
        }

        /** Goes into the element at this place, and tells where it ends. */
        int open(int tag, int end) {
            start = place;
            if (wrongAt >= 0) {
                return place;
            }
            if (place >= end) {
                wrongAt = end;
                return place;
            }
            int length = octet(place + 1);
            int head = 2;
            int least = 0;
            if (length == 0x81) {
                length = octet(place + 2);
                head = 3;
                least = 128;
            } else if (length == 0x82) {
                length = octet(place + 2) * 256 + octet(place + 3);
                head = 4;
                least = 256;
            } else if (length >= 128) {
                length = NONE;
            }
            if (octet(place) != tag || length < least || place + head + length > end) {
                wrongAt = place;
                return place;
            }
            place += head;
            return place + length;
        }

        /** Leaves an element whose elements were read: nothing may be left in it. */
        void finish(int end) {
            if (wrongAt < 0 && place < end) {
                wrongAt = place;
            }
        }

        /** Leaves the primitive element that was opened last. */
        void leave(int end, boolean stands) {
            if (wrongAt >= 0) {
                return;
            }
            if (stands) {
                place = end;
            } else {
                wrongAt = start;
            }
        }

        Slice number(int tag, int end) {
            int ends = open(tag, end);
            int from = place;
            boolean sign = octet(from + 1) >= 128;
            boolean longer = ends - from > 1 && (octet(from) == 0 && !sign || octet(from) == 255 && sign);
            leave(ends, ends > from && !longer);
            return new Slice(text, from, ends);
        }

        Slice serial(int end) {
            Slice digits = number(INTEGER, end);
            boolean positive = digits.at(0) < 128 && (digits.at(0) > 0 || digits.length() > 1);
            require(positive && digits.length() <= LONGEST_SERIAL);
            return digits;
        }

        void flag(int end) {
            int ends = open(BOOLEAN, end);
            leave(ends, ends - place == 1 && octet(place) == 255);
        }

        /** Goes into a BIT STRING all of whose bits are used, behind its first octet. */
        int openBits(int end) {
            int ends = open(BITS, end);
            leave(place + 1, place < ends && octet(place) == 0);
            return ends;
        }

        /** The octets of a plain element, so many at least. */
        Slice plain(int tag, int least, int end) {
            int ends = open(tag, end);
            int from = place;
            leave(ends, ends - from >= least);
            return new Slice(text, from, ends);
        }

        void algorithm(int last, int end) {
            int ends = open(SEQ, end);
            int idEnd = open(OID, ends);
            boolean same = idEnd - place == PKCS1.length + 1 && octet(idEnd - 1) == last;
            for (int i = 0; i < PKCS1.length; i++) {
                same = same && octet(place + i) == PKCS1[i];
            }
            leave(idEnd, same);
            int nullEnd = open(NULL, ends);
            leave(nullEnd, nullEnd == place);
            finish(ends);
        }

        /** What is in a NAME; how many PARTS it has is kept. */
        Slice name(int end) {
            int ends = open(SEQ, end);
            int from = place;
            parts = 0;
            for (int n = 0; n < LONGEST_TEXT && more(ends); n++) {
                int setEnd = open(SET, ends);
                int pairEnd = open(SEQ, setEnd);
                int idEnd = open(OID, pairEnd);
                leave(idEnd, isOid(place, idEnd));
                int tag = nextIs(UTF8, pairEnd) ? UTF8 : nextIs(IA5, pairEnd) ? IA5 : PRINTABLE;
                int stringEnd = open(tag, pairEnd);
                boolean stands = tag == UTF8 ? isUtf8(place, stringEnd) : isSimple(tag, place, stringEnd);
                leave(stringEnd, stringEnd > place && stands);
                finish(pairEnd);
                finish(setEnd);
                parts++;
            }
            return new Slice(text, from, ends);
        }

        Slice fullName(int end) {
            int at = place;
            Slice read = name(end);
            if (read.length() == 0) {
                refuse(at);
            }
            return read;
        }

        /** SEQ { EXTENSIONS, one at least }. */
        void readExtensions(int end) {
            int ends = open(SEQ, end);
            kinds.clear();
            for (int n = 0; n < LONGEST_TEXT && (n == 0 || more(ends)); n++) {
                int at = place;
                int one = open(SEQ, ends);
                int idEnd = open(OID, one);
                Slice kind = new Slice(text, place, idEnd);
                leave(idEnd, isOid(place, idEnd));
                boolean critical = nextIs(BOOLEAN, one);
                if (critical) {
                    flag(one);
                }
                int inEnd = open(OCTETS, one);
                if (readKnown(kindNumber(kind), inEnd)) {
                    finish(inEnd);
                } else {
                    leave(inEnd, true);
                    matters += critical ? 1 : 0;
                }
                finish(one);
                if (isRepeated(kind)) {
                    refuse(at);
                }
                kinds.add(kind);
                extensions++;
            }
        }

        /** What stands behind the TBS (TBL), to the end of the text. */
        void readSignature(Paper paper, int end) {
            algorithm(SHA_WITH_RSA, end);
            int bitsEnd = openBits(end);
            paper.signature = new Slice(text, place, bitsEnd);
            leave(bitsEnd, true);
            finish(end);
            finish(text.length);
        }

        Slice issuerKey(int end) {
            int ends = open(SEQ, end);
            Slice read = plain(0x80, 1, ends);
            finish(ends);
            return read;
        }

        long time(int end) {
            boolean isLong = nextIs(GENERALIZED, end);
            int ends = open(isLong ? GENERALIZED : UTC, end);
            int behindYear = place + (isLong ? 4 : 2);
            int year = isLong ? digits(place) * 100 + digits(place + 2) : digits(place);
            if (!isLong) {
                year += year >= 50 ? 1900 : 2000;
            }
            int month = digits(behindYear);
            int day = digits(behindYear + 2);
            int hour = digits(behindYear + 4);
            int minute = digits(behindYear + 6);
            int second = digits(behindYear + 8);
            boolean whole = ends == behindYear + 11 && areDigits(place, ends - 1) && octet(ends - 1) == 'Z';
            boolean inDay = hour < 24 && minute < 60 && second < 60;
            leave(ends, whole && inDay && isDay(year, month, day) && (!isLong || year >= 2050));
            return ((daysTo(year, month, day) * 24 + hour) * 60 + minute) * 60 + second;
        }

        private int digits(int at) {
            return (octet(at) - '0') * 10 + octet(at + 1) - '0';
        }

        private boolean areDigits(int from, int to) {
            for (int i = from; i < to; i++) {
                if (octet(i) < '0' || octet(i) > '9') {
                    return false;
                }
            }
            return true;
        }

        private static boolean isLeap(int year) {
            return year % 4 == 0 && (year % 100 != 0 || year % 400 == 0);
        }

        private static boolean isDay(int year, int month, int day) {
            if (month < 1 || month > 12 || day < 1) {
                return false;
            }
            int days = MONTH_STARTS[month] - MONTH_STARTS[month - 1];
            return day <= (month == 2 && isLeap(year) ? days + 1 : days);
        }

        /** Days from 1970-01-01; 0 for what is no month, which was refused before. */
        private static long daysTo(int year, int month, int day) {
            if (month < 1 || month > 12) {
                return 0;
            }
            int before = year - 1;
            int inYear = MONTH_STARTS[month - 1] + day - 1 + (month > 2 && isLeap(year) ? 1 : 0);
            return 365L * year + before / 4 - before / 100 + before / 400 + inYear - DAYS_TO_1970;
        }

        private boolean isOid(int from, int to) {
            boolean begins = true;
            for (int i = from; i < to; i++) {
                if (begins && octet(i) == 0x80) {
                    return false;
                }
                begins = octet(i) < 128;
            }
            return to > from && begins;
        }

        private boolean isSimple(int tag, int from, int to) {
            for (int i = from; i < to; i++) {
                if (tag == PRINTABLE ? !isPrintable(octet(i)) : octet(i) >= 128) {
                    return false;
                }
            }
            return true;
        }

        /** The digits stand in the row from + to :, with , - . and / in it. */
        private static boolean isPrintable(int octet) {
            boolean letter = octet >= 'A' && octet <= 'Z' || octet >= 'a' && octet <= 'z';
            boolean plusToColon = octet >= '+' && octet <= ':';
            boolean sign = octet >= '\'' && octet <= ')' || octet == ' ' || octet == '=' || octet == '?';
            return letter || plusToColon || sign;
        }

        private boolean isUtf8(int from, int to) {
            int left = 0;
            int least = 0;
            int point = 0;
            for (int i = from; i < to; i++) {
                int octet = octet(i);
                if (left > 0) {
                    point = point << 6 | octet & 0x3F;
                    left--;
                    boolean surrogate = point >= 0xD800 && point <= 0xDFFF;
                    boolean bad = left == 0 && (point < least || point > 0x10FFFF || surrogate);
                    if ((octet & 0xC0) != 0x80 || bad) {
                        return false;
                    }
                } else if (octet >= 0x80) {
                    if (octet < 0xC0 || octet >= 0xF8) {
                        return false;
                    }
                    left = octet < 0xE0 ? 1 : octet < 0xF0 ? 2 : 3;
                    least = left == 1 ? 0x80 : left == 2 ? 0x800 : 0x10000;
                    point = octet & (0x3F >> left);
                }
            }
            return left == 0;
        }

        private boolean isRepeated(Slice kind) {
            for (int i = 0; i < kinds.size(); i++) {
                if (kinds.get(i).same(kind)) {
                    return true;
                }
            }
            return false;
        }

        /** The last number of an OID 2.5.29.x; -1 of others. */
        private static int kindNumber(Slice kind) {
            return kind.length() == 3 && kind.at(0) == 0x55 && kind.at(1) == 0x1D ? kind.at(2) : NONE;
        }
    }

    private static final class CertificateReader extends Reader {
        private static final int A1 = 0xA1;
        private static final int A3 = 0xA3;
        private static final int DNS = 0x82;
        private static final int MAIL = 0x81;
        private static final int ADDRESS = 0x87;
        private static final int DIRECTORY = 0xA4;
        private static final int RSA = 1;
        private static final int FEWEST_BITS = 496;
        private static final int MOST_BITS = 2048;
        private static final int HIGHEST_EXPONENT = 0x7FFFFFFF;

        final Certificate result;

        CertificateReader(byte[] text) {
            super(text);
            result = new Certificate(new Slice(text, 0, 0));
        }

        void readCertificate() {
            int ends = open(SEQ, text.length);
            int from = place;
            int bodyEnd = open(SEQ, ends);
            readHead(bodyEnd);
            readKey(bodyEnd);
            if (nextIs(A3, bodyEnd)) {
                int around = open(A3, bodyEnd);
                readExtensions(around);
                finish(around);
            }
            finish(bodyEnd);
            result.body = new Slice(text, from, bodyEnd);
            result.extensions = extensions;
            result.matters = matters;
            readSignature(result, ends);
        }

        private void readHead(int end) {
            int versionEnd = open(A0, end);
            require(number(INTEGER, versionEnd).number() == 2);
            finish(versionEnd);
            result.serial = serial(end);
            algorithm(SHA_WITH_RSA, end);
            result.issuer = fullName(end);
            int timesEnd = open(SEQ, end);
            result.first = time(timesEnd);
            result.last = time(timesEnd);
            finish(timesEnd);
            result.subject = name(end);
            result.subjectParts = parts;
            result.selfIssued = result.subject.same(result.issuer);
        }

        private void readKey(int end) {
            int ends = open(SEQ, end);
            algorithm(RSA, ends);
            int bitsEnd = openBits(ends);
            int keyEnd = open(SEQ, bitsEnd);
            readModulus(keyEnd);
            long exponent = number(INTEGER, keyEnd).number();
            require(exponent >= 3 && exponent <= HIGHEST_EXPONENT && (exponent & 1) == 1);
            result.exponent = (int) exponent;
            finish(keyEnd);
            finish(bitsEnd);
            finish(ends);
        }

        private void readModulus(int end) {
            Slice digits = number(INTEGER, end);
            boolean positive = digits.at(0) < 128;
            if (digits.at(0) == 0) {
                digits = new Slice(text, digits.from + 1, digits.to);
            }
            int bits = digits.length() * 8;
            for (int mask = 128; mask > 0 && (digits.at(0) & mask) == 0; mask >>= 1) {
                bits--;
            }
            boolean odd = (digits.at(digits.length() - 1) & 1) == 1;
            require(positive && odd && bits >= FEWEST_BITS && bits <= MOST_BITS);
            result.modulus = digits;
            result.modulusBits = bits;
        }

        boolean readKnown(int kind, int end) {
            switch (kind) {
                case OWN_KEY:
                    result.ownKey = plain(OCTETS, 1, end);
                    return true;
                case USAGE:
                    readUsage(end);
                    return true;
                case NAMES:
                    readNames(end);
                    return true;
                case BASIC:
                    readBasic(end);
                    return true;
                case CONSTRAINTS:
                    int ends = open(SEQ, end);
                    boolean permits = nextIs(A0, ends);
                    if (permits) {
                        readTrees(A0, result.permitted, ends);
                    }
                    if (!permits || more(ends)) {
                        readTrees(A1, result.excluded, ends);
                    }
                    finish(ends);
                    return true;
                case ISSUER_KEY:
                    result.issuerKey = issuerKey(end);
                    return true;
                default:
                    return false;
            }
        }

        private void readBasic(int end) {
            int ends = open(SEQ, end);
            boolean ca = nextIs(BOOLEAN, ends);
            if (ca) {
                flag(ends);
            }
            result.ca = ca;
            if (nextIs(INTEGER, ends)) {
                long length = number(INTEGER, ends).number();
                require(ca && length >= 0 && length <= 255);
                result.pathLength = (int) length;
            }
            finish(ends);
        }

        private void readUsage(int end) {
            int ends = open(BITS, end);
            int size = ends - place - 1;
            int unused = octet(place);
            int last = octet(ends - 1);
            boolean stands = (size == 1 || size == 2) && unused >= 0 && unused <= 7;
            leave(ends, stands && (last & (2 << unused) - 1) == 1 << unused);
            int usage = 0;
            for (int bit = 0; bit < size * 8 && bit < 16; bit++) {
                int octet = octet(ends - size + bit / 8);
                usage |= (octet >> (7 - bit % 8) & 1) << bit;
            }
            result.usage = usage;
        }

        private void readNames(int end) {
            int ends = open(SEQ, end);
            for (int n = 0; n < LONGEST_TEXT && (n == 0 || more(ends)); n++) {
                if (nextIs(DIRECTORY, ends)) {
                    int around = open(DIRECTORY, ends);
                    result.names.directories.add(name(around));
                    finish(around);
                } else if (nextIs(ADDRESS, ends)) {
                    int size = plain(ADDRESS, 1, ends).length();
                    require(size == 4 || size == 16);
                } else if (nextIs(MAIL, ends)) {
                    require(isVisible(plain(MAIL, 1, ends)));
                } else {
                    Slice read = plain(DNS, 1, ends);
                    require(isVisible(read));
                    result.names.dns.add(read);
                }
            }
        }

        private void readTrees(int tag, NameSet into, int end) {
            int ends = open(tag, end);
            for (int n = 0; n < LONGEST_TEXT && (n == 0 || more(ends)); n++) {
                int one = open(SEQ, ends);
                if (nextIs(DIRECTORY, one)) {
                    int around = open(DIRECTORY, one);
                    into.directories.add(name(around));
                    finish(around);
                } else {
                    Slice read = plain(DNS, 0, one);
                    require(isVisible(read));
                    into.dns.add(read);
                }
                finish(one);
            }
        }

        private static boolean isVisible(Slice octets) {
            for (int i = 0; i < octets.length(); i++) {
                if (octets.at(i) < 33 || octets.at(i) > 126) {
                    return false;
                }
            }
            return true;
        }
    }

    private static final class ListReader extends Reader {
        private static final int HIGHEST_REASON = 10;
        private static final int NO_REASON = 7;

        final Paper result;
        private boolean inEntry = false;

        ListReader(byte[] text) {
            super(text);
            result = new Paper(new Slice(text, 0, 0));
        }

        void readList() {
            int ends = open(SEQ, text.length);
            int from = place;
            int bodyEnd = open(SEQ, ends);
            readHead(bodyEnd);
            inEntry = nextIs(SEQ, bodyEnd);
            int entriesEnd = inEntry ? open(SEQ, bodyEnd) : place;
            for (int n = 0; n < LONGEST_TEXT && inEntry; n++) {
                int one = open(SEQ, entriesEnd);
                result.entries.add(serial(one));
                time(one);
                if (nextIs(SEQ, one)) {
                    readExtensions(one);
                }
                finish(one);
                inEntry = more(entriesEnd);
            }
            if (nextIs(A0, bodyEnd)) {
                int around = open(A0, bodyEnd);
                readExtensions(around);
                finish(around);
            }
            finish(bodyEnd);
            result.body = new Slice(text, from, bodyEnd);
            result.matters = matters;
            readSignature(result, ends);
        }

        private void readHead(int end) {
            require(number(INTEGER, end).number() == 1);
            algorithm(SHA_WITH_RSA, end);
            result.issuer = fullName(end);
            result.first = time(end);
            result.last = time(end);
        }

        boolean readKnown(int kind, int end) {
            if (inEntry && kind == REASON) {
                long reason = number(ENUMERATED, end).number();
                require(reason >= 0 && reason <= HIGHEST_REASON && reason != NO_REASON);
                return true;
            }
            if (!inEntry && kind == LIST_NUMBER) {
                Slice digits = number(INTEGER, end);
                require(digits.at(0) < 128 && digits.length() <= LONGEST_SERIAL);
                return true;
            }
            if (!inEntry && kind == ISSUER_KEY) {
                issuerKey(end);
                return true;
            }
            return false;
        }
    }

    /** SHA-256 of FIPS 180-4. */
    private static final class Sha256 {
        private static final int BLOCK = 64;
        private static final int[] START = {
            0x6a09e667, 0xbb67ae85, 0x3c6ef372, 0xa54ff53a, 0x510e527f, 0x9b05688c, 0x1f83d9ab, 0x5be0cd19
        };
        private static final int[] ROUND = {
            0x428a2f98, 0x71374491, 0xb5c0fbcf, 0xe9b5dba5, 0x3956c25b, 0x59f111f1, 0x923f82a4, 0xab1c5ed5,
            0xd807aa98, 0x12835b01, 0x243185be, 0x550c7dc3, 0x72be5d74, 0x80deb1fe, 0x9bdc06a7, 0xc19bf174,
            0xe49b69c1, 0xefbe4786, 0x0fc19dc6, 0x240ca1cc, 0x2de92c6f, 0x4a7484aa, 0x5cb0a9dc, 0x76f988da,
            0x983e5152, 0xa831c66d, 0xb00327c8, 0xbf597fc7, 0xc6e00bf3, 0xd5a79147, 0x06ca6351, 0x14292967,
            0x27b70a85, 0x2e1b2138, 0x4d2c6dfc, 0x53380d13, 0x650a7354, 0x766a0abb, 0x81c2c92e, 0x92722c85,
            0xa2bfe8a1, 0xa81a664b, 0xc24b8b70, 0xc76c51a3, 0xd192e819, 0xd6990624, 0xf40e3585, 0x106aa070,
            0x19a4c116, 0x1e376c08, 0x2748774c, 0x34b0bcb5, 0x391c0cb3, 0x4ed8aa4a, 0x5b9cca4f, 0x682e6ff3,
            0x748f82ee, 0x78a5636f, 0x84c87814, 0x8cc70208, 0x90befffa, 0xa4506ceb, 0xbef9a3f7, 0xc67178f2
        };

        private final int[] schedule = new int[BLOCK];

        /** The row has eight words. */
        void hash(Slice octets, int[] into) {
            if (into.length != HASH_WORDS) {
                return;
            }
            System.arraycopy(START, 0, into, 0, HASH_WORDS);
            int blocks = (octets.length() + 8) / BLOCK + 1;
            for (int n = 0; n < blocks; n++) {
                fillSchedule(octets, n * BLOCK, blocks * BLOCK);
                mix(into);
            }
        }

        private void fillSchedule(Slice octets, int from, int total) {
            for (int i = 0; i < 16; i++) {
                int word = 0;
                for (int at = from + 4 * i; at < from + 4 * i + 4; at++) {
                    word = word << 8 | padded(octets, at, total);
                }
                schedule[i] = word;
            }
            for (int i = 16; i < BLOCK; i++) {
                int near = schedule[i - 2];
                int far = schedule[i - 15];
                int nearMix = turn(near, 17) ^ turn(near, 19) ^ near >>> 10;
                int farMix = turn(far, 7) ^ turn(far, 18) ^ far >>> 3;
                schedule[i] = nearMix + schedule[i - 7] + farMix + schedule[i - 16];
            }
        }

        private static int padded(Slice octets, int at, int total) {
            if (at < octets.length()) {
                return octets.at(at);
            }
            if (at == octets.length()) {
                return 0x80;
            }
            return at < total - 4 ? 0 : octets.length() * 8 >>> 8 * (total - 1 - at) & 255;
        }

        private void mix(int[] sum) {
            int a = sum[0];
            int b = sum[1];
            int c = sum[2];
            int d = sum[3];
            int e = sum[4];
            int f = sum[5];
            int g = sum[6];
            int h = sum[7];
            for (int i = 0; i < BLOCK; i++) {
                int high = turn(e, 6) ^ turn(e, 11) ^ turn(e, 25);
                int one = h + high + (e & f ^ ~e & g) + ROUND[i] + schedule[i];
                int low = turn(a, 2) ^ turn(a, 13) ^ turn(a, 22);
                int two = low + (a & b ^ a & c ^ b & c);
                h = g;
                g = f;
                f = e;
                e = d + one;
                d = c;
                c = b;
                b = a;
                a = one + two;
            }
            sum[0] += a;
            sum[1] += b;
            sum[2] += c;
            sum[3] += d;
            sum[4] += e;
            sum[5] += f;
            sum[6] += g;
            sum[7] += h;
        }

        private static int turn(int word, int by) {
            return word >>> by | word << 32 - by;
        }
    }

    /** Verifies signatures by Montgomery's multiplication on limbs of 32 bits, the lowest first. */
    private static final class Rsa {
        private static final int MOST_LIMBS = 64;
        private static final long LOW = 0xFFFFFFFFL;
        private static final int YES = 1;
        private static final int NO = 2;
        private static final int HASH_OCTETS = 32;
        private static final int[] PREFIX = {
            0x30, 0x31, 0x30, 0x0D, 0x06, 0x09, 0x60, 0x86, 0x48, 0x01, 0x65, 0x03, 0x04, 0x02, 0x01, 0x05, 0x00,
            0x04, 0x20
        };

        private final long[] modulus = new long[MOST_LIMBS];
        private final long[] square = new long[MOST_LIMBS];
        private final long[] base = new long[MOST_LIMBS];
        private final long[] power = new long[MOST_LIMBS];
        private final long[] unit = new long[MOST_LIMBS];
        private final long[] sum = new long[MOST_LIMBS + 2];
        private int limbs = 0;
        private long inverse = 0;

        Rsa() {
            unit[0] = 1;
        }

        /** The answer never changes, and a search asks for it many times: it is kept. */
        boolean isSigned(Paper paper, Certificate signer) {
            int who = signer.number;
            if (who < 0 || who >= paper.signers.length) {
                return false;
            }
            if (paper.signers[who] == 0) {
                paper.signers[who] = verifies(paper, signer) ? YES : NO;
            }
            return paper.signers[who] == YES;
        }

        private boolean verifies(Paper paper, Certificate signer) {
            int size = signer.modulus.length();
            if (paper.signature.length() != size || size > 4 * MOST_LIMBS || size == 0) {
                return false;
            }
            limbs = (size + 3) / 4;
            load(signer.modulus, modulus);
            load(paper.signature, base);
            if (!isBelowModulus(base)) {
                return false;
            }
            prepare(signer.modulusBits);
            for (int n = 0; n < 5; n++) {
                multiply(square, square, square);
            }
            multiply(base, square, base);
            boolean begun = false;
            for (int bit = 30; bit >= 0; bit--) {
                if (begun) {
                    multiply(power, power, power);
                }
                if ((signer.exponent >> bit & 1) == 1) {
                    if (begun) {
                        multiply(power, base, power);
                    } else {
                        System.arraycopy(base, 0, power, 0, limbs);
                    }
                    begun = true;
                }
            }
            multiply(power, unit, power);
            return hasForm(paper.hash, size);
        }

        private void load(Slice octets, long[] into) {
            Arrays.fill(into, 0);
            int size = octets.length();
            for (int i = 0; i < size && i < 4 * MOST_LIMBS; i++) {
                into[i / 4] |= (long) octets.at(size - 1 - i) << 8 * (i % 4);
            }
        }

        private boolean isBelowModulus(long[] row) {
            for (int j = limbs - 1; j >= 0; j--) {
                if (row[j] != modulus[j]) {
                    return row[j] < modulus[j];
                }
            }
            return false;
        }

        /** Leaves 2 to the power of (33 * limbs), modulo n; five squarings make the one of (64 * limbs) of it. */
        private void prepare(int bits) {
            long low = modulus[0];
            inverse = low;
            for (int n = 0; n < 5; n++) {
                inverse = inverse * (2 - low * inverse);
            }
            inverse = -inverse & LOW;
            Arrays.fill(square, 0);
            int top = Math.max(0, Math.min(bits - 1, 32 * limbs - 1));
            square[top / 32] = 1L << top % 32;
            for (int n = top; n < 33 * limbs; n++) {
                long carry = 0;
                for (int j = 0; j < limbs; j++) {
                    long twice = square[j] << 1 | carry;
                    sum[j] = twice & LOW;
                    carry = twice >>> 32;
                }
                sum[limbs] = carry;
                settle(square);
            }
        }

        /** a * b / 2 to the power of (32 * limbs), modulo n; the row of the answer may be one of the factors. */
        private void multiply(long[] a, long[] b, long[] into) {
            Arrays.fill(sum, 0);
            for (int i = 0; i < limbs; i++) {
                long carry = 0;
                for (int j = 0; j < limbs; j++) {
                    long digit = sum[j] + a[j] * b[i] + carry;
                    sum[j] = digit & LOW;
                    carry = digit >>> 32;
                }
                long high = sum[limbs] + carry;
                long factor = sum[0] * inverse & LOW;
                carry = sum[0] + factor * modulus[0] >>> 32;
                for (int j = 1; j < limbs; j++) {
                    long digit = sum[j] + factor * modulus[j] + carry;
                    sum[j - 1] = digit & LOW;
                    carry = digit >>> 32;
                }
                high += carry;
                sum[limbs - 1] = high & LOW;
                sum[limbs] = high >>> 32;
            }
            settle(into);
        }

        /** The sum is below 2 * n: takes n away once if it must. */
        private void settle(long[] into) {
            int top = limbs - 1;
            while (top > 0 && sum[top] == modulus[top]) {
                top--;
            }
            boolean over = sum[limbs] != 0 || sum[top] >= modulus[top];
            long borrow = 0;
            for (int j = 0; j < limbs; j++) {
                long digit = sum[j] - (over ? modulus[j] : 0) - borrow;
                into[j] = digit & LOW;
                borrow = digit < 0 ? 1 : 0;
            }
        }

        private boolean hasForm(int[] hash, int size) {
            for (int i = 0; i < size && i < 4 * MOST_LIMBS; i++) {
                int octet = (int) (power[i / 4] >>> 8 * (i % 4)) & 255;
                if (octet != due(hash, i, size)) {
                    return false;
                }
            }
            return true;
        }

        /** The octet that is due at a place, counted from the end. */
        private static int due(int[] hash, int fromEnd, int size) {
            if (fromEnd < HASH_OCTETS) {
                return hash[HASH_WORDS - 1 - fromEnd / 4] >>> 8 * (fromEnd % 4) & 255;
            }
            int behindHash = fromEnd - HASH_OCTETS;
            if (behindHash < PREFIX.length) {
                return PREFIX[PREFIX.length - 1 - behindHash];
            }
            if (behindHash == PREFIX.length || fromEnd == size - 1) {
                return 0;
            }
            return fromEnd == size - 2 ? 1 : 255;
        }
    }

    /** Finds the CHAINS of a target one after the other, in depth. */
    private static final class Search {
        static final int MOST_PUT = 1000;

        final ArrayList<Certificate> path = new ArrayList<>();
        private final int[] next = new int[DEEPEST];
        private int depth = 0;
        private int puts = 0;
        private int onPath = 0;

        boolean begin(ArrayList<Certificate> stored, Certificate target, int deepest) {
            path.clear();
            onPath = 0;
            depth = Math.min(deepest, DEEPEST);
            puts = 0;
            put(target);
            return target.trusted || advance(stored);
        }

        /** Every step puts one on the way or takes one off, so twice as many steps as puts are enough. */
        boolean advance(ArrayList<Certificate> stored) {
            for (int step = 0; step < 2 * MOST_PUT && !path.isEmpty(); step++) {
                int candidate = nextCandidate(stored.size());
                if (candidate < 0 || candidate >= stored.size()) {
                    takeOff();
                } else {
                    put(stored.get(candidate));
                    if (stored.get(candidate).trusted) {
                        return true;
                    }
                }
            }
            return false;
        }

        private void put(Certificate one) {
            if (path.size() < next.length) {
                next[path.size()] = 0;
                path.add(one);
                onPath |= 1 << one.number;
                puts++;
            }
        }

        private void takeOff() {
            if (!path.isEmpty()) {
                onPath &= ~(1 << path.remove(path.size() - 1).number);
            }
        }

        private int nextCandidate(int stored) {
            int at = path.size() - 1;
            if (at < 0 || at >= next.length || puts >= MOST_PUT || path.size() >= depth || path.get(at).trusted) {
                return NONE;
            }
            int candidates = path.get(at).issuers & ~onPath;
            for (int n = next[at]; n < stored; n++) {
                if ((candidates >> n & 1) == 1) {
                    next[at] = n + 1;
                    return n;
                }
            }
            return NONE;
        }
    }

    /** Looks for the FAULT of a CHAIN. */
    private static final class PathCheck {
        private static final int NOT_SIGNED = 1;
        private static final int NOT_AT_THE_TIME = 2;
        private static final int REVOKED = 3;
        private static final int NOT_KNOWN = 4;
        private static final int FORBIDDEN_NAME = 5;
        private static final int STRANGE_MATTER = 6;
        private static final int NO_CA = 7;
        private static final int TOO_LONG = 8;
        private static final int NO_SIGNER = 9;
        private static final int SIGNS_CERTIFICATES = 5;
        private static final int SIGNS_LISTS = 6;

        int faultPlace = NONE;
        private long time = 0;
        private boolean knownWanted = false;
        private boolean isKnown = false;

        void begin(long atTime, boolean known) {
            time = atTime;
            knownWanted = known;
        }

        /** The FAULT, 0 for none; where it was is kept. */
        int faultOf(ArrayList<Certificate> path, ArrayList<Paper> lists, Rsa rsa) {
            for (int i = path.size() - 2; i >= 0; i--) {
                int fault = faultAt(path, i, lists, rsa);
                if (fault != 0) {
                    faultPlace = i;
                    return fault;
                }
            }
            faultPlace = NONE;
            return 0;
        }

        private int faultAt(ArrayList<Certificate> path, int i, ArrayList<Paper> lists, Rsa rsa) {
            if (i < 0 || i + 1 >= path.size()) {
                return 0;
            }
            Certificate one = path.get(i);
            Certificate issuer = path.get(i + 1);
            if (!rsa.isSigned(one, issuer)) {
                return NOT_SIGNED;
            }
            if (!one.isAt(time)) {
                return NOT_AT_THE_TIME;
            }
            if (isRevoked(one, issuer, lists, rsa)) {
                return REVOKED;
            }
            if (knownWanted && !isKnown) {
                return NOT_KNOWN;
            }
            if ((i == 0 || !one.selfIssued) && !isNameAllowed(path, i)) {
                return FORBIDDEN_NAME;
            }
            if (one.matters > 0) {
                return STRANGE_MATTER;
            }
            return i == 0 ? 0 : faultAsIssuer(path, i);
        }

        private int faultAsIssuer(ArrayList<Certificate> path, int i) {
            Certificate one = path.get(i);
            if (!one.ca) {
                return NO_CA;
            }
            if (isTooFarDown(path, i)) {
                return TOO_LONG;
            }
            return one.mayUse(SIGNS_CERTIFICATES) ? 0 : NO_SIGNER;
        }

        /** Whether it is KNOWN at all is kept beside the answer. */
        private boolean isRevoked(Certificate one, Certificate issuer, ArrayList<Paper> lists, Rsa rsa) {
            isKnown = false;
            boolean revoked = false;
            for (int l = 0; l < lists.size(); l++) {
                Paper list = lists.get(l);
                boolean counts = list.isAt(time) && list.matters == 0 && issuer.mayUse(SIGNS_LISTS);
                if (counts && list.issuer.same(one.issuer) && rsa.isSigned(list, issuer)) {
                    isKnown = true;
                    revoked = revoked || list.hasEntry(one.serial);
                }
            }
            return revoked;
        }

        private static boolean isNameAllowed(ArrayList<Certificate> path, int i) {
            Certificate one = path.get(i);
            for (int j = path.size() - 2; j > i; j--) {
                Certificate above = path.get(j);
                if (one.subjectParts > 0 && !above.allowsDirectory(one.subject)) {
                    return false;
                }
                for (int n = 0; n < one.names.directories.size(); n++) {
                    if (!above.allowsDirectory(one.names.directories.get(n))) {
                        return false;
                    }
                }
                for (int n = 0; n < one.names.dns.size(); n++) {
                    if (!above.allowsDns(one.names.dns.get(n))) {
                        return false;
                    }
                }
            }
            return true;
        }

        private static boolean isTooFarDown(ArrayList<Certificate> path, int i) {
            int between = 0;
            for (int j = i; j < path.size() - 1; j++) {
                Certificate above = path.get(j);
                if (j > i && above.pathLength >= 0 && above.pathLength < between) {
                    return true;
                }
                between += above.selfIssued ? 0 : 1;
            }
            return false;
        }
    }
}
