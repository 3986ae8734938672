import java.util.Arrays;

/**
 * Packets made by the tests on their own, from the document's words; a byte is an int 0 .. 255.
 */
final class Bytes {
    static final int DONT = 0x4000;
    static final int MORE = 0x2000;

    private Bytes() {
    }

    static int pair(int[] b, int k) {
        return b[k] * 256 + b[k + 1];
    }

    static int word(int[] b, int k) {
        return pair(b, k) << 16 | pair(b, k + 2);
    }

    static long eight(int[] b, int k) {
        return (long) word(b, k) << 32 | Integer.toUnsignedLong(word(b, k + 4));
    }

    static int[] putPair(int[] b, int k, int v) {
        b[k] = v >> 8 & 255;
        b[k + 1] = v & 255;
        return b;
    }

    static int[] putWord(int[] b, int k, int v) {
        putPair(b, k, v >> 16);
        return putPair(b, k + 2, v);
    }

    static int[] join(int[]... rows) {
        int n = 0;
        for (int[] row : rows) {
            n += row.length;
        }
        int[] all = new int[n];
        int at = 0;
        for (int[] row : rows) {
            System.arraycopy(row, 0, all, at, row.length);
            at += row.length;
        }
        return all;
    }

    static int[] content(int n, int number) {
        int[] b = new int[n];
        for (int k = 0; k < n; k++) {
            b[k] = Math.floorMod(k + number, 256);
        }
        return b;
    }

    /** The total of a head modulo 65535 tells the sum that makes it right: another way than the program's. */
    static int[] mend(int[] b) {
        putPair(b, 10, 0);
        int total = 0;
        for (int k = 0; k < 20; k += 2) {
            total += pair(b, k);
        }
        return putPair(b, 10, total == 0 ? 65535 : (65535 - total % 65535) % 65535);
    }

    static boolean sumIsRight(int[] b) {
        int total = 0;
        for (int k = 0; k < 20; k += 2) {
            total += pair(b, k);
        }
        return total != 0 && total % 65535 == 0;
    }

    static int[] packet(int from, int to, int kind, int hops, int[] content) {
        int[] head = new int[20];
        head[0] = 0x45;
        putPair(head, 2, 20 + content.length);
        head[8] = hops;
        head[9] = kind;
        putWord(head, 12, from);
        putWord(head, 16, to);
        return mend(join(head, content));
    }

    static int[] with(int[] packet, int cls, int number, int flags) {
        int[] b = packet.clone();
        b[1] = cls;
        putPair(b, 4, number);
        putPair(b, 6, flags);
        return mend(b);
    }

    static int[] oneHopLess(int[] packet) {
        int[] b = packet.clone();
        b[8]--;
        return mend(b);
    }

    static int[] content(int[] packet) {
        return Arrays.copyOfRange(packet, 20, packet.length);
    }

    /** A packet and what stands behind it in the text. */
    static int[] text(int[] inner) {
        int fill = 0;
        while ((inner.length + fill + 2) % 4 != 0) {
            fill++;
        }
        return join(inner, content(fill, 1), new int[] {fill, 4});
    }

    static int[] streamed(int[] text, long key, long number) {
        long s = key ^ number * Long.parseUnsignedLong("9E3779B97F4A7C15", 16);
        int[] b = text.clone();
        for (int k = 0; k < b.length; k++) {
            s = s * 6364136223846793005L + 1442695040888963407L;
            b[k] ^= (int) (s >>> 56);
        }
        return b;
    }

    static int[] stamp(int[] bytes, long stampKey) {
        long h = stampKey;
        for (int b : bytes) {
            h = (h ^ b) * 1099511628211L;
        }
        h ^= h >>> 32;
        int[] out = new int[8];
        putWord(out, 0, (int) (h >>> 32));
        return putWord(out, 4, (int) h);
    }

    static int[] four(int v) {
        return putWord(new int[4], 0, v);
    }

    static int[] sealedContent(int[] text, int name, long key, long stampKey, boolean isLong, long number) {
        int[] front = join(four(name), four((int) number), streamed(text, key, number));
        int[] stamped = isLong ? join(front, four((int) (number >>> 32))) : front;
        return join(front, stamp(stamped, stampKey));
    }

    /** A part of a packet: n bytes of its content from byte start on. */
    static int[] part(int[] packet, int start, int n, boolean more) {
        int[] head = Arrays.copyOf(packet, 20);
        int[] b = join(head, Arrays.copyOfRange(packet, 20 + start, 20 + start + n));
        putPair(b, 2, b.length);
        putPair(b, 6, pair(b, 6) & 0xC000 | (more ? MORE : 0) | start / 8 & 0x1FFF);
        return mend(b);
    }

    static void type(Gate gate, int[] bytes) {
        int[] padded = Arrays.copyOf(bytes, (bytes.length + 7) / 8 * 8);
        gate.keep(0);
        for (int k = 0; k < padded.length; k += 8) {
            gate.type(eight(padded, k));
        }
        gate.keep(bytes.length);
    }

    static int come(Gate gate, int port, int[] bytes) {
        type(gate, bytes);
        return gate.come(port);
    }

    static int[] sent(Gate gate, int packet) {
        int[] b = new int[gate.sent(packet, SealedGateway.NONE)];
        for (int k = 0; k < b.length; k++) {
            b[k] = gate.sent(packet, k);
        }
        return b;
    }

    static int[] tape(Gate gate, int n) {
        int[] b = new int[n];
        for (int k = 0; k < n; k++) {
            b[k] = gate.at(k);
        }
        return b;
    }
}
