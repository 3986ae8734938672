import java.util.Arrays;

/** Section 1 of the document, PACKETS, and promises 1 to 7, sentence by sentence: below, at and above each boundary. */
public final class PacketEdgesTest {
    private static final Due DUE = new Due("PacketEdgesTest");
    private static final int FROM = 0x0A000001;
    private static final int TO = 0x0B000001;

    public static void main(String[] args) {
        tapeOfUpTo2000();
        highestFirst();
        keepFirstBytes();
        pokeOneByte();
        makeRanges();
        makeContent();
        makeWritesAll();
        sumOf20();
        sumChangesTwoBytes();
        atLeast20();
        byte0();
        lengths();
        bytesBehindLength();
        sums();
        sumsThatGoBeyond();
        zeroOr65535();
        partBits();
        doorKinds();
        doorContent();
        doorsThroughPorts();
        DUE.finish();
    }

    /** A gateway that sends all of the inner port as it is. */
    private static Gate open() {
        Gate g = new Gate(1);
        g.route(0, 0, 1);
        g.policy(0, 0, 0, 0, 0, -1);
        return g;
    }

    private static int[] packet(int n) {
        return Bytes.packet(FROM, TO, 1, 9, Bytes.content(n, 0));
    }

    private static int comes(int[] bytes) {
        return Bytes.come(open(), 0, bytes);
    }

    private static Gate tape(int n) {
        Gate g = new Gate(1);
        g.make(1, 2, 3, 4, 1476, 5);
        for (int k = 0; k < 63; k++) {
            g.type(k);
        }
        g.keep(n);
        return g;
    }

    /** THE TAPE has up to 2000 bytes; type: they would be more than 2000. */
    private static void tapeOfUpTo2000() {
        for (int size = 1984; size <= 2000; size++) {
            int n = size;
            Gate g = tape(n);
            if (n <= 1992) {
                DUE.is("type behind " + n, g.type(0x0102030405060708L), n + 8);
                DUE.is("its first", g.at(n), 1);
                DUE.is("its last", g.at(n + 7), 8);
                DUE.index("behind it", () -> g.at(n + 8));
            } else {
                DUE.state("type behind " + n, () -> g.type(0x0102030405060708L));
                DUE.is("the last as it was", g.at(n - 1), tape(2000).at(n - 1));
                DUE.index("none is new", () -> g.at(n));
                g.keep(1992);
                DUE.is("there is room again", g.type(0), 2000);
            }
        }
        Gate g = new Gate(1);
        for (int n = 8; n <= 2000; n += 8) {
            DUE.is("type, one by one", g.type(n), n);
        }
        DUE.state("the 251st", () -> g.type(0));
    }

    /** Eight bytes more of the tape, the highest first. */
    private static void highestFirst() {
        long[] rows = {0, -1, Long.MIN_VALUE, Long.MAX_VALUE, 0x8081828384858687L, 0x0102030405060708L};
        for (long row : rows) {
            Gate g = new Gate(1);
            DUE.is("type", g.type(row), 8);
            for (int k = 0; k < 8; k++) {
                DUE.is("byte " + k + " of " + row, g.at(k), row >>> (56 - 8 * k) & 255);
            }
            DUE.index("no ninth", () -> g.at(8));
        }
    }

    /** The tape keeps its first n bytes: n is below 0, or it has not so many. */
    private static void keepFirstBytes() {
        for (int size : new int[] {0, 1, 7, 8}) {
            for (int n = 0; n <= size; n++) {
                Gate g = new Gate(1);
                g.type(0xA1A2A3A4A5A6A7A8L);
                g.keep(size);
                g.keep(n);
                int kept = n;
                DUE.index("byte " + n + " of " + n, () -> g.at(kept));
                DUE.argument("no more come back", () -> g.keep(kept + 1));
                for (int k = 0; k < n; k++) {
                    DUE.is("byte " + k + " of " + n, g.at(k), 0xA1 + k);
                }
                DUE.is("type behind them", g.type(0), n + 8);
                DUE.is("what was kept is still there", n == 0 || g.at(n - 1) == 0xA0 + n, true);
                DUE.is("what was not is not", g.at(n), 0);
            }
            Gate g = new Gate(1);
            g.type(0);
            g.keep(size);
            for (int n : new int[] {-1, Integer.MIN_VALUE, size + 1, Integer.MAX_VALUE}) {
                DUE.argument("keep(" + n + ") of " + size, () -> g.keep(n));
            }
        }
        Gate g = tape(2000);
        DUE.argument("keep(2001)", () -> g.keep(2001));
        g.keep(2000);
        DUE.is("keep(2000) keeps all", g.at(1999), 62);
    }

    /** A byte of the tape becomes another one, 0 .. 255: which it was. */
    private static void pokeOneByte() {
        for (int b : new int[] {0, 1, 127, 128, 254, 255}) {
            Gate g = new Gate(1);
            g.type(0x0102030405060708L);
            for (int k : new int[] {0, 3, 7}) {
                DUE.is("poke(" + k + ", " + b + ")", g.poke(k, b), k + 1);
                DUE.is("at(" + k + ")", g.at(k), b);
                DUE.is("poke again", g.poke(k, 77), b);
            }
            DUE.is("the one behind 0", g.at(1), 2);
            DUE.is("the one before 7", g.at(6), 7);
        }
        Gate g = tape(2000);
        DUE.is("poke(1999)", g.poke(1999, 255), 62);
        DUE.index("poke(2000)", () -> g.poke(2000, 255));
    }

    /** make: kind or hops is not 0 .. 255, or n not 0 .. 1480. */
    private static void makeRanges() {
        Gate g = new Gate(1);
        for (int b : new int[] {0, 1, 254, 255}) {
            DUE.is("make of kind " + b, g.make(1, 2, b, 7, 0, 0), 20);
            DUE.is("its kind", g.at(9), b);
            DUE.is("make of hops " + b, g.make(1, 2, 7, b, 0, 0), 20);
            DUE.is("its hops", g.at(8), b);
        }
        for (int n : new int[] {0, 1, 1479, 1480}) {
            DUE.is("make of n " + n, g.make(1, 2, 3, 4, n, 5), 20 + n);
            DUE.is("LENGTH", g.at(2) * 256 + g.at(3), 20 + n);
            DUE.index("behind it", () -> g.at(20 + n));
        }
        for (int b : new int[] {-1, 256}) {
            DUE.argument("make of kind " + b, () -> g.make(1, 2, b, 7, 0, 0));
            DUE.argument("make of hops " + b, () -> g.make(1, 2, 7, b, 0, 0));
        }
        for (int n : new int[] {-1, 1481}) {
            DUE.argument("make of n " + n, () -> g.make(1, 2, 3, 4, n, 5));
        }
        DUE.is("the last good one is still there", g.at(1499), (1479 + 5) & 255);
    }

    /** Byte k of the content is k and the number (its lowest eight bits). */
    private static void makeContent() {
        for (int number : new int[] {0, 1, 254, 255, 256, 257, -1, -256, Integer.MAX_VALUE, Integer.MIN_VALUE}) {
            Gate g = new Gate(1);
            g.make(1, 2, 3, 4, 260, number);
            for (int k : new int[] {0, 1, 2, 127, 128, 254, 255, 256, 257, 259}) {
                DUE.is("byte " + k + " of number " + number, g.at(20 + k), Math.floorMod((long) k + number, 256L));
            }
        }
    }

    /** CLASS 0, NUMBER 0, no DONT, MORE or OFFSET, with its right SUM: whatever the tape was. */
    private static void makeWritesAll() {
        for (int before : new int[] {0, 8, 1504, 2000}) {
            Gate g = tape(before);
            for (int k = 0; k < Math.min(before, 24); k++) {
                g.poke(k, 255);
            }
            DUE.is("make", g.make(-2, Integer.MIN_VALUE, 255, 255, 3, 9), 23);
            DUE.is("all of it", Arrays.equals(Bytes.tape(g, 23),
                Bytes.packet(-2, Integer.MIN_VALUE, 255, 255, new int[] {9, 10, 11})), true);
            DUE.index("and no more", () -> g.at(23));
        }
        Gate g = open();
        g.make(FROM, TO, 1, 9, 3, 9);
        DUE.is("it is not BROKEN", g.come(0), 0);
    }

    /** The SUM of the tape's first 20 bytes: it has not so many. */
    private static void sumOf20() {
        for (int n = 0; n <= 24; n++) {
            Gate g = tape(n);
            for (int k = 10; k < Math.min(n, 12); k++) {
                g.poke(k, 99);
            }
            if (n < 20) {
                DUE.state("sum of " + n, g::sum);
                DUE.is("they are as they were", n < 11 || g.at(10) == 99, true);
            } else {
                int right = Bytes.pair(Bytes.packet(1, 2, 3, 4, Bytes.content(1476, 5)), 10);
                DUE.is("sum of " + n, g.sum(), right);
                DUE.is("it stands there", g.at(10) * 256 + g.at(11), right);
            }
        }
    }

    /** It becomes right whatever was there, also of what is no packet; all else stays. */
    private static void sumChangesTwoBytes() {
        for (int seed = 1; seed <= 40; seed++) {
            int[] b = new int[24];
            for (int k = 0; k < b.length; k++) {
                b[k] = (seed * 7919 + k * k * 31 * seed >> 3) & 255;
            }
            Gate g = new Gate(1);
            Bytes.type(g, b);
            int[] want = Bytes.mend(b.clone());
            DUE.is("sum " + seed, g.sum(), Bytes.pair(want, 10));
            DUE.is("all else of " + seed, Arrays.equals(Bytes.tape(g, 24), want), true);
            DUE.is("again " + seed, g.sum(), Bytes.pair(want, 10));
        }
    }

    /** A PACKET are bytes, at least 20. */
    private static void atLeast20() {
        int[] p = packet(0);
        for (int n = 0; n <= 20; n++) {
            DUE.is(n + " bytes", comes(Arrays.copyOf(p, n)), n < 20 ? 1 : 0);
            Gate g = open();
            Bytes.type(g, Arrays.copyOf(p, n));
            DUE.is("meaning of " + n + " bytes", g.meaning(0), n < 20 ? -1 : 0);
        }
        DUE.is("21 bytes", comes(packet(1)), 0);
    }

    /** Byte 0 is 0x45. */
    private static void byte0() {
        for (int b = 0; b < 256; b++) {
            int[] p = packet(4);
            p[0] = b;
            DUE.is("byte 0 is " + b, comes(Bytes.mend(p)), b == 0x45 ? 0 : 1);
        }
    }

    /** LENGTH (20 .. as many bytes as there are). */
    private static void lengths() {
        for (int n : new int[] {0, 1, 5, 236, 300}) {
            int size = 20 + n;
            for (int length : new int[] {0, 1, 19, 20, 21, size - 1, size, size + 1, size + 256, 0x1400, 65535}) {
                int[] p = Bytes.mend(Bytes.putPair(packet(n), 2, length));
                boolean isGood = length >= 20 && length <= size;
                Gate g = open();
                DUE.is("LENGTH " + length + " of " + size, Bytes.come(g, 0, p), isGood ? 0 : 1);
                DUE.is("meaning", g.meaning(0), isGood ? 0 : -1);
                DUE.is("what is sent", g.sent(0, -1), isGood ? length : 0);
            }
        }
    }

    /** Bytes behind it do not count. */
    private static void bytesBehindLength() {
        Gate g = open();
        int[] p = Bytes.mend(Bytes.putPair(Bytes.packet(FROM, TO, 1, 9, Bytes.content(1480, 3)), 6, Bytes.DONT));
        DUE.is("1500 with DONT, and bytes behind them", Bytes.come(g, 0, Bytes.join(p, new int[9])), 0);
        DUE.is("1500 are sent", g.sent(0, -1), 1500);
        DUE.is("in one", g.sent(1, -1), 0);
        DUE.is("the tape stays", g.at(1508), 0);
    }

    /** The SUM is right when the ten pairs come to 65535: each change of one bit of the head makes it wrong. */
    private static void sums() {
        int[] p = Bytes.with(Bytes.packet(FROM, 0xFFFEFDFC, 17, 200, Bytes.content(5, 0)), 0x5A, 0xFEDC, 0xC123);
        DUE.is("right", comes(p), 0);
        for (int k = 0; k < 20; k++) {
            for (int bit = 1; bit < 256; bit *= 2) {
                int[] b = p.clone();
                b[k] ^= bit;
                DUE.is("byte " + k + " another by " + bit, comes(b), 1);
            }
        }
        int sum = Bytes.pair(p, 10);
        for (int d : new int[] {-256, -255, -1, 1, 255, 256}) {
            DUE.is("SUM by " + d, comes(Bytes.putPair(p.clone(), 10, sum + d)), 1);
        }
        p[22] ^= 255;
        DUE.is("the content is not summed", comes(p), 0);
    }

    /** What goes beyond 16 bits is added again, also when that goes beyond them once more. */
    private static void sumsThatGoBeyond() {
        for (int high = 1; high <= 4; high++) {
            for (int low : new int[] {0, 1, 65534 - high, 65535 - high, 65536 - high, 65534, 65535}) {
                int[] p = Bytes.packet(0, 0, 0, 9, new int[0]);
                int left = high * 65536 + low - 0x4500 - 20 - 0x0900;
                for (int k : new int[] {4, 12, 14, 16, 18}) {
                    Bytes.putPair(p, k, Math.min(left, 65535));
                    left -= Bytes.pair(p, k);
                }
                DUE.is("all pairs but the SUM come to " + high + ", " + low, left, 0);
                Bytes.mend(p);
                Gate g = open();
                DUE.is("pairs of " + high + ", " + low, Bytes.come(g, 0, p), 0);
                DUE.is("sum", g.sum(), Bytes.pair(p, 10));
                int[] sent = Bytes.sent(g, 0);
                DUE.is("what is sent", Arrays.equals(sent, Bytes.oneHopLess(p)), true);
                DUE.is("is right", Bytes.sumIsRight(sent), true);
            }
        }
    }

    /** A right SUM is 0 where 0 and 65535 would do; both are right when they come. */
    private static void zeroOr65535() {
        for (int hops : new int[] {2, 3, 255}) {
            int[] p = Bytes.packet(FROM, 0x0B000000, 1, hops, new int[0]);
            int[] less = Bytes.oneHopLess(p);
            Bytes.putPair(p, 18, Bytes.pair(less, 10));
            Bytes.mend(p);
            Gate g = open();
            DUE.is("it comes", Bytes.come(g, 0, p), 0);
            DUE.is("its SUM with one hop less, byte 10", g.sent(0, 10), 0);
            DUE.is("its SUM with one hop less, byte 11", g.sent(0, 11), 0);
            g.take(0);
            DUE.is("0 is right", g.come(0), hops == 2 ? 2 : 0);
            g.take(0);
            g.poke(8, hops - 1);
            g.poke(10, 255);
            g.poke(11, 255);
            DUE.is("65535 is right", g.come(0), hops == 2 ? 2 : 0);
            DUE.is("sum makes it 0", g.sum(), 0);
            g.poke(11, 1);
            DUE.is("1 is not", g.come(0), 1);
            g.poke(10, 255);
            g.poke(11, 254);
            DUE.is("65534 is not", g.come(0), 1);
        }
    }

    /** Bit 14 DONT, bit 13 MORE, bits 0 .. 12 the OFFSET (bit 15 is anything): a PART has MORE or an OFFSET. */
    private static void partBits() {
        for (int bit = 0; bit < 16; bit++) {
            int[] p = Bytes.with(Bytes.packet(FROM, TO, 17, 9, Bytes.content(8, 0)), 0, 0, 1 << bit);
            Gate g = open();
            g.meant(17, 0, 65534);
            g.policy(1, 0, 0, 0, 0, -1);
            Bytes.type(g, p);
            DUE.is("a door with bit " + bit, g.meaning(1), bit < 14 ? -1 : 1);
            int[] sealed = Bytes.with(Bytes.packet(FROM, 1, 50, 9, Bytes.content(8, 0)), 0, 0, 1 << bit);
            int want = bit >= 14 ? 8 : bit == 13 || bit <= 7 ? 7 : 17;
            DUE.is("a part with bit " + bit, Bytes.come(g, 1, sealed), want);
        }
        int[] both = Bytes.with(Bytes.packet(FROM, 1, 50, 9, Bytes.content(8, 0)), 0, 0, 0xC000);
        DUE.is("bits 14 and 15", Bytes.come(open(), 1, both), 8);
    }

    /** Its DOOR, of KIND 6 and 17. */
    private static void doorKinds() {
        Gate g = new Gate(1);
        g.meant(0, 0x0203, 0x0203);
        g.policy(0, 0, 0, 0, 0, -1);
        for (int kind = 0; kind < 256; kind++) {
            g.make(1, 2, kind, 9, 4, 0);
            DUE.is("a door of kind " + kind, g.meaning(0), kind == 6 || kind == 17 ? 0 : -1);
        }
    }

    /** .. is what bytes 2 and 3 of the content tell, if it has 4 bytes of content. */
    private static void doorContent() {
        for (int kind : new int[] {6, 17}) {
            for (int n = 0; n <= 6; n++) {
                Gate g = new Gate(1);
                g.meant(0, 0, 65534);
                g.policy(0, 0, 0, 0, 0, -1);
                g.make(1, 2, kind, 9, n, 0);
                DUE.is("a door of " + n + " bytes", g.meaning(0), n < 4 ? -1 : 0);
                g.make(1, 2, kind, 9, 6, 0);
                g.poke(3, 20 + n);
                g.sum();
                DUE.is("a door of " + n + " bytes by LENGTH", g.meaning(0), n < 4 ? -1 : 0);
            }
            int[] doors = {0, 1, 255, 256, 0x7FFF, 0x8000, 0xFF00, 65534, 65535};
            for (int door : doors) {
                int[] p = Bytes.packet(1, 2, kind, 9, new int[] {99, 99, door >> 8, door & 255, 99});
                for (int d = -1; d <= 1; d++) {
                    int only = door + d;
                    if (only >= 0 && only <= 65535) {
                        Gate g = new Gate(1);
                        g.meant(0, only, only);
                        g.policy(0, 0, 0, 0, 0, -1);
                        Bytes.type(g, p);
                        DUE.is("door " + door + " of " + only, g.meaning(0), d == 0 ? 0 : -1);
                    }
                }
            }
        }
    }

    /** Bytes behind LENGTH are no door for packets that come either. */
    private static void doorsThroughPorts() {
        for (int port = 0; port <= 1; port++) {
            for (int n = 0; n <= 5; n++) {
                Gate g = new Gate(1);
                g.route(0, 0, 1 - port);
                g.meant(0, 0, 65534);
                g.policy(port, 0, 0, 0, 0, -1);
                g.make(FROM, TO, 17, 9, 6, 0);
                g.poke(3, 20 + n);
                g.sum();
                DUE.is("port " + port + ", a door of " + n + " bytes", g.come(port), n < 4 ? port == 0 ? 4 : 16 : 0);
            }
        }
    }
}
