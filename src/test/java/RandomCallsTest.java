import java.util.ArrayList;
import java.util.List;
import java.util.Random;

/** Whatever is called in whatever state: nothing is thrown but what the document names, and runs are repeatable. */
public final class RandomCallsTest {
    private static final int[] ODD = {Integer.MIN_VALUE, -1, 0, 1, 2, 3, 7, 8, 15, 16, 17, 2048, 2049, Integer.MAX_VALUE};
    private static final int FIRST_LIST = 3;
    private static final Check CHECK = new Check();

    public static void main(String[] args) {
        List<byte[]> texts = texts();
        for (int seed = 0; seed < 400; seed++) {
            long first = run(new Random(seed), texts);
            CHECK.same("the same calls again, seed " + seed, run(new Random(seed), texts), first);
        }
        everyOctetChanged(texts);
        CHECK.end();
    }

    private static List<byte[]> texts() {
        Key root = Key.small(1);
        Key middle = Key.small(2);
        List<byte[]> texts = new ArrayList<>();
        texts.add(new Maker("root", root, "root", root).with(Maker.ca(3), Maker.usage(1, 6)).certificate());
        texts.add(new Maker("middle", middle, "root", root).serial(3).with(Maker.ca(), Maker.ownKey(1, 2),
            Maker.constraints(Maker.trees(0xA0, Maker.dns("a.b"), Maker.directory(Maker.name("leaf"))),
                Maker.trees(0xA1, Maker.dns("x.a.b")))).certificate());
        texts.add(new Maker("leaf", Key.small(3), "middle", middle).with(Maker.issuerKey(1, 2),
            Maker.names(Maker.dns("c.a.b"), Maker.directory(Maker.name("leaf", "more")), Node.octets(0x87, 1, 2, 3, 4)),
            Maker.extension("1.2.3", true, Node.raw(1))).certificate());
        texts.add(new Maker("root", root).revoking(3, 4).with(Maker.issuerKey(9)).list());
        Maker list = new Maker("middle", middle);
        list.entries.add(Maker.entry(1, Maker.extension(21, true, Node.octets(0x0A, 1))));
        texts.add(list.with(Maker.extension(20, false, Node.integer(1))).list());
        return texts;
    }

    private static int any(Random random) {
        return random.nextInt(3) == 0 ? ODD[random.nextInt(ODD.length)] : random.nextInt(6);
    }

    private static long run(Random random, List<byte[]> texts) {
        Store store = new Store();
        long sum = 0;
        for (int calls = 0; calls < 60; calls++) {
            long answer;
            try {
                answer = call(store, random, texts);
            } catch (RuntimeException thrown) {
                if (!Check.isOwn(thrown)) {
                    CHECK.tell("thrown: " + thrown);
                }
                answer = thrown instanceof IndexOutOfBoundsException ? -77 : -78;
            }
            sum = sum * 31 + answer;
        }
        return sum;
    }

    private static long call(Store store, Random random, List<byte[]> texts) {
        TrustChain x = store.x;
        switch (random.nextInt(16)) {
            case 0:
            case 1:
            case 2:
            case 3:
                int which = random.nextInt(texts.size());
                byte[] text = texts.get(which).clone();
                for (int n = random.nextInt(5) - 2; n > 0; n--) {
                    text[random.nextInt(text.length)] = (byte) random.nextInt(256);
                }
                store.feed(text);
                int size = text.length + (random.nextInt(9) == 0 ? random.nextInt(5) - 2 : 0);
                return which >= FIRST_LIST ? x.list(size) : x.certificate(size, random.nextInt(3) == 0);
            case 4:
                return x.feed(random.nextInt(), random.nextInt(), any(random), any(random), any(random));
            case 5:
                return random.nextBoolean() ? x.list(any(random)) : x.certificate(any(random), true);
            case 6:
                return x.wrong();
            case 7:
                return x.trust(any(random), random.nextBoolean()) ? 1 : 0;
            case 8:
                return x.part(any(random), random.nextInt(14) - 1);
            case 9:
                return x.listPart(any(random), random.nextInt(6) - 1);
            case 10:
                return x.signed(random.nextBoolean(), any(random), any(random)) ? 1 : 0;
            case 11:
                return x.digest(any(random), any(random));
            case 12:
                return x.chain(any(random));
            case 13:
                return x.count(any(random));
            case 14:
                return x.covers(any(random), random.nextLong(), any(random), random.nextLong(), 0) ? 1 : 0;
            default:
                long time = random.nextBoolean() ? Maker.NOON_2020 : random.nextLong();
                return x.validate(any(random), time, any(random), random.nextBoolean());
        }
    }

    /** A text with one octet changed or cut off stands, or is WRONG at a place within it. */
    private static void everyOctetChanged(List<byte[]> texts) {
        int[] octets = {0, 1, 2, 0x30, 0x7F, 0x80, 0x81, 0x82, 0xA0, 0xFF};
        for (byte[] text : texts) {
            for (int at = 0; at < text.length; at++) {
                for (int octet : octets) {
                    byte[] changed = text.clone();
                    changed[at] = (byte) octet;
                    read(changed, changed.length);
                }
                CHECK.no("cut off at " + at, read(text, at));
            }
            CHECK.yes("the whole", read(text, text.length));
        }
    }

    private static boolean read(byte[] text, int size) {
        boolean stood = false;
        for (int list = 0; list < 2; list++) {
            Store store = new Store();
            store.feed(text);
            try {
                stood |= (list == 1 ? store.x.list(size) : store.x.certificate(size, false)) == 0;
                CHECK.same("wrong() of what stands", store.x.wrong(), -1);
            } catch (IllegalArgumentException refused) {
                CHECK.yes("a place", store.x.wrong() >= 0 && store.x.wrong() <= size);
                CHECK.yes("thrown by the class itself", Check.isOwn(refused));
            }
        }
        return stood;
    }
}
