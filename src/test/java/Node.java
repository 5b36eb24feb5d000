import java.io.ByteArrayOutputStream;
import java.math.BigInteger;
import java.nio.charset.StandardCharsets;
import java.util.ArrayList;
import java.util.Arrays;
import java.util.List;

/** An element of DER that knows, once its root was written, where it stands. */
final class Node {
    private int tag;
    private byte[] front;
    final List<Node> kids = new ArrayList<>();
    private byte[] header;
    private int stretch = 0;
    int place;
    int end;

    private Node(int tag, byte[] front, Node... kids) {
        this.tag = tag;
        this.front = front;
        this.kids.addAll(Arrays.asList(kids));
    }

    static Node of(int tag, Node... kids) {
        return new Node(tag, new byte[0], kids);
    }

    static Node octets(int tag, int... octets) {
        return new Node(tag, bytes(octets));
    }

    static Node octets(int tag, byte[] octets) {
        return new Node(tag, octets);
    }

    static Node text(int tag, String text) {
        return new Node(tag, text.getBytes(StandardCharsets.ISO_8859_1));
    }

    /** What is no element at all: octets as they are. */
    static Node raw(int... octets) {
        Node node = new Node(-1, bytes(octets));
        node.header = new byte[0];
        return node;
    }

    /** An element whose length is written in a form of one's own. */
    static Node odd(int[] header, Node... kids) {
        Node node = new Node(-1, new byte[0], kids);
        node.header = bytes(header);
        return node;
    }

    static Node seq(Node... kids) {
        return of(0x30, kids);
    }

    static Node set(Node... kids) {
        return of(0x31, kids);
    }

    static Node integer(BigInteger value) {
        return new Node(0x02, value.toByteArray());
    }

    static Node integer(long value) {
        return integer(BigInteger.valueOf(value));
    }

    static Node bool(int octet) {
        return octets(0x01, octet);
    }

    static Node nul() {
        return octets(0x05);
    }

    static Node bits(int unused, Node... kids) {
        return new Node(0x03, bytes(new int[] {unused}), kids);
    }

    static Node octetString(Node... kids) {
        return of(0x04, kids);
    }

    static Node utc(String text) {
        return text(0x17, text);
    }

    static Node general(String text) {
        return text(0x18, text);
    }

    static Node oid(String dotted) {
        String[] numbers = dotted.split("\\.");
        ByteArrayOutputStream out = new ByteArrayOutputStream();
        writeNumber(out, Long.parseLong(numbers[0]) * 40 + Long.parseLong(numbers[1]));
        for (int i = 2; i < numbers.length; i++) {
            writeNumber(out, Long.parseLong(numbers[i]));
        }
        return new Node(0x06, out.toByteArray());
    }

    private static void writeNumber(ByteArrayOutputStream out, long number) {
        for (int shift = 56; shift > 0; shift -= 7) {
            if (number >>> shift != 0) {
                out.write((int) (number >>> shift & 127 | 128));
            }
        }
        out.write((int) (number & 127));
    }

    private static byte[] bytes(int[] octets) {
        byte[] result = new byte[octets.length];
        for (int i = 0; i < octets.length; i++) {
            result[i] = (byte) octets[i];
        }
        return result;
    }

    /** Tells a length that is so many octets above (below) the true one. */
    Node stretched(int by) {
        stretch = by;
        return this;
    }

    Node retagged(int other) {
        tag = other;
        return this;
    }

    /** The octets before the elements in it; all of a primitive one. */
    byte[] front() {
        return front;
    }

    void refill(byte[] octets) {
        front = octets;
    }

    /** This one and all in it. */
    List<Node> all() {
        List<Node> all = new ArrayList<>();
        all.add(this);
        for (Node kid : kids) {
            all.addAll(kid.all());
        }
        return all;
    }

    byte[] write() {
        locate(0);
        ByteArrayOutputStream out = new ByteArrayOutputStream();
        write(out);
        return out.toByteArray();
    }

    private int contentSize() {
        int size = front.length;
        for (Node kid : kids) {
            size += kid.head().length + kid.contentSize();
        }
        return size;
    }

    private byte[] head() {
        if (header != null) {
            return header;
        }
        int size = contentSize() + stretch;
        if (size < 128) {
            return bytes(new int[] {tag, size});
        }
        return size < 256 ? bytes(new int[] {tag, 0x81, size}) : bytes(new int[] {tag, 0x82, size >> 8, size & 255});
    }

    private void locate(int at) {
        place = at;
        int next = at + head().length + front.length;
        for (Node kid : kids) {
            kid.locate(next);
            next = kid.end;
        }
        end = next;
    }

    private void write(ByteArrayOutputStream out) {
        out.writeBytes(head());
        out.writeBytes(front);
        for (Node kid : kids) {
            kid.write(out);
        }
    }
}
