import java.nio.ByteBuffer;
import java.nio.charset.StandardCharsets;
import java.util.Arrays;
import java.util.function.LongSupplier;

/** Many sentences in one call: runs of drawn calls, whose answers Model gives as well. */
public final class MeetingTest {
    private static final int RUNS = 400;
    private static final int MOST_CALLS = 512;
    private static final Check CHECK = new Check();
    private static final int[] VERDICTS = new int[11];

    private final TrustChain x = new TrustChain();
    private final Model model = new Model();
    private final Deck deck;
    private final long seed;
    private int calls = 0;

    private MeetingTest(long seed) {
        this.seed = seed;
        this.deck = new Deck(seed);
    }

    public static void main(String[] args) {
        long from = args.length > 0 ? Long.parseLong(args[0]) : 0;
        long runs = args.length > 1 ? Long.parseLong(args[1]) : RUNS;
        for (long seed = from; seed < from + runs; seed++) {
            new MeetingTest(seed).run();
        }
        for (int verdict = 0; verdict < VERDICTS.length; verdict++) {
            CHECK.yes("the verdict " + verdict + " was met", VERDICTS[verdict] > 0);
        }
        if (args.length > 0) {
            System.out.println(Arrays.toString(VERDICTS));
        }
        CHECK.end();
    }

    private void run() {
        int names = 1 + deck.below(6);
        int certificates = deck.chance(10) ? 18 : 3 + deck.below(9);
        int lists = deck.chance(5) ? 10 : deck.below(4);
        for (int n = certificates + lists; n > 0; n--) {
            boolean list = deck.below(certificates + lists) < lists;
            Maker maker = list ? deck.list(names) : deck.certificate(names);
            text(deck.chance(15) ? deck.spoiled(maker) : maker.text(), list);
        }
        while (calls < MOST_CALLS) {
            ask();
        }
    }

    private void ask() {
        int c = deck.below(12);
        int other = deck.below(15) - 1;
        boolean yes = deck.chance(40);
        switch (deck.below(10)) {
            case 0:
                both("trust(" + c + ", " + yes + ")", () -> bit(x.trust(c, yes)), () -> bit(model.trust(c, yes)));
                break;
            case 1:
                both("part(" + c + ", " + other + ")", () -> x.part(c, other), () -> model.part(c, other));
                break;
            case 2:
                both("listPart(" + other + ", " + c + ")", () -> x.listPart(other, c), () -> model.listPart(other, c));
                break;
            case 3:
                both("digest(" + c + ", " + other + ")", () -> x.digest(c, other), () -> model.digest(c, other));
                break;
            case 4:
                both("signed(" + yes + ", " + c + ", " + other + ")", () -> bit(x.signed(yes, c, other)),
                    () -> bit(model.signed(yes, c, other)));
                break;
            case 5:
                covers(c);
                break;
            default:
                validate();
        }
    }

    private static long bit(boolean answer) {
        return answer ? 1 : 0;
    }

    private static String outcome(LongSupplier call) {
        try {
            return Long.toString(call.getAsLong());
        } catch (IndexOutOfBoundsException | IllegalArgumentException thrown) {
            return thrown.getClass().getSimpleName();
        }
    }

    /** The answer that is due; behind the last call that the document speaks of there is none. */
    private String both(String call, LongSupplier ofClass, LongSupplier ofModel) {
        if (calls == MOST_CALLS) {
            return "";
        }
        calls++;
        String due = outcome(ofModel);
        CHECK.sameText("run " + seed + ": " + call, outcome(ofClass), due);
        return due;
    }

    private void text(byte[] text, boolean list) {
        ByteBuffer words = ByteBuffer.wrap(Arrays.copyOf(text, (text.length + 19) / 20 * 20));
        while (words.hasRemaining()) {
            int[] five = {words.getInt(), words.getInt(), words.getInt(), words.getInt(), words.getInt()};
            both("feed", () -> x.feed(five[0], five[1], five[2], five[3], five[4]),
                () -> model.feed(five[0], five[1], five[2], five[3], five[4]));
        }
        boolean trusted = deck.chance(model.count(0) == 0 ? 90 : 3);
        if (list) {
            both("list", () -> x.list(text.length), () -> model.list(text.length));
        } else {
            both("certificate", () -> x.certificate(text.length, trusted), () -> model.certificate(text.length, trusted));
        }
        both("wrong", x::wrong, model::wrong);
    }

    private void validate() {
        int target = deck.below(Math.max(1, model.count(0)));
        long time = deck.anyTime();
        int depth = deck.chance(30) ? deck.below(18) : 6;
        boolean known = deck.chance(30);
        String call = "validate(" + target + ", " + time + ", " + depth + ", " + known + ")";
        String verdict = both(call, () -> x.validate(target, time, depth, known),
            () -> model.validate(target, time, depth, known));
        if (verdict.matches("[0-9]+")) {
            VERDICTS[Integer.parseInt(verdict)]++;
        }
        for (int n = 0; n < 5; n++) {
            int k = n;
            both("chain(" + k + ") behind " + call, () -> x.chain(k), () -> model.chain(k));
            both("count(" + k + ") behind " + call, () -> x.count(k), () -> model.count(k));
        }
    }

    private void covers(int c) {
        String host = (deck.chance(20) ? "." : deck.chance(50) ? "" : "u.") + deck.anyDns();
        ByteBuffer four = ByteBuffer.wrap(Arrays.copyOf(host.getBytes(StandardCharsets.ISO_8859_1), 16));
        long a = four.getLong();
        long b = four.getLong();
        both("covers(" + c + ") of " + host, () -> bit(x.covers(c, a, b, 0, 0)), () -> bit(model.covers(c, a, b, 0, 0)));
    }
}
