import java.util.Arrays;

/** Promises 15, 18, 19, 25: what comes through the inner port, and what was sent of it. */
public final class InnerPortTest {
    private static final Due DUE = new Due("InnerPortTest");
    private static final int OWN = 0x01020304;
    private static final int PEER = 0x05060708;
    private static final int IN = 0x0A000001;
    private static final int OUT = 0x0B000001;

    public static void main(String[] args) {
        reasonsInOrder();
        broken();
        bypass();
        bypassInParts();
        sealing();
        choosingSeals();
        sealedTooMuch();
        taking();
        DUE.finish();
    }

    private static Gate gate(int done) {
        Gate g = new Gate(OWN);
        g.route(0x0A000000, 8, 0);
        g.route(0x0B000000, 8, 1);
        g.peer(2, PEER);
        g.policy(0, 0, 0, 0, 0, done);
        return g;
    }

    private static void reasonsInOrder() {
        Gate g = new Gate(OWN);
        DUE.argument("come(2)", () -> g.come(2));
        DUE.argument("come(-1)", () -> g.come(-1));
        g.make(IN, OUT, 1, 1, 0, 0);
        DUE.is("hops 1", g.come(0), 2);
        g.make(IN, OUT, 1, 0, 0, 0);
        DUE.is("hops 0", g.come(0), 2);
        g.make(IN, OUT, 1, 2, 0, 0);
        DUE.is("no route", g.come(0), 3);
        g.route(OUT, 32, 0);
        DUE.is("a route to the inner port", g.come(0), 3);
        g.route(OUT, 32, 1);
        DUE.is("no policy", g.come(0), 4);
        g.policy(1, 0, 0, 0, 0, -1);
        DUE.is("no policy of the way out", g.come(0), 4);
        g.policy(0, IN, 32, OUT, 32, -2);
        DUE.is("DISCARD", g.come(0), 4);
        g.policy(0, 0, 0, 0, 0, -1);
        DUE.is("the first policy counts", g.come(0), 4);
        g.make(IN + 1, OUT, 1, 2, 0, 0);
        DUE.is("BYPASS", g.come(0), 0);
        g.make(IN + 1, OUT, 1, 255, 0, 0);
        DUE.is("BYPASS of 255 hops", g.come(0), 0);
        DUE.is("254 are left", g.sent(0, 8), 254);
        int[] want = {2, 0, 2, 2, 4};
        for (int k = 0; k < want.length; k++) {
            DUE.is("ended(" + k + ")", g.ended(k), want[k]);
        }
        DUE.index("the log has none of these", () -> g.log(0, 0));
    }

    private static void broken() {
        Gate g = gate(-1);
        int[] good = Bytes.packet(IN, OUT, 1, 9, Bytes.content(5, 0));
        DUE.is("not broken", Bytes.come(g, 0, good), 0);
        DUE.is("bytes behind it", Bytes.come(g, 0, Bytes.join(good, new int[] {1, 2, 3})), 0);
        DUE.is("they do not count", g.sent(0, -1), 25);
        DUE.is("the tape stays", g.at(27), 3);
        DUE.is("the tape's hops stay", g.at(8), 9);
        DUE.is("19 bytes", Bytes.come(g, 0, Arrays.copyOf(good, 19)), 1);
        DUE.is("fewer than LENGTH", Bytes.come(g, 0, Arrays.copyOf(good, 24)), 1);
        for (int length : new int[] {0, 19, 26, 65535}) {
            DUE.is("LENGTH " + length, Bytes.come(g, 0, Bytes.mend(Bytes.putPair(good.clone(), 2, length))), 1);
        }
        DUE.is("LENGTH 20", Bytes.come(g, 0, Bytes.mend(Bytes.putPair(good.clone(), 2, 20))), 0);
        int[] first = good.clone();
        first[0] = 0x46;
        DUE.is("byte 0", Bytes.come(g, 0, Bytes.mend(first)), 1);
        int[] sum = good.clone();
        sum[11] ^= 1;
        DUE.is("the SUM", Bytes.come(g, 0, sum), 1);
        DUE.is("sent stays as it was", g.sent(0, -1), 20);
        // A head whose other pairs come to 65535: both sums are right.
        int[] both = good.clone();
        int total = 65535 - Bytes.pair(Bytes.mend(Bytes.putWord(both, 16, 0x0B000000)), 10);
        Bytes.mend(Bytes.putWord(both, 16, 0x0B000000 | 65535 - total));
        DUE.is("0 where both would do", Bytes.pair(both, 10), 0);
        DUE.is("sum 0", Bytes.come(g, 0, both), 0);
        DUE.is("sum 65535", Bytes.come(g, 0, Bytes.putPair(both, 10, 65535)), 0);
    }

    private static void bypass() {
        Gate g = gate(-1);
        int[] p = Bytes.with(Bytes.packet(IN, OUT, 17, 9, Bytes.content(11, 3)), 0xAB, 0x1234, 0xC000 | Bytes.MORE | 77);
        DUE.is("come", Bytes.come(g, 0, p), 0);
        DUE.is("one hop less, its right SUM", Arrays.equals(Bytes.sent(g, 0), Bytes.oneHopLess(p)), true);
        DUE.is("port", g.sent(0, -2), 1);
        DUE.is("no second one", g.sent(1, -1), 0);
        DUE.is("no second port", g.sent(1, -2), -1);
        DUE.index("byte 31", () -> g.sent(0, 31));
        DUE.index("byte -3", () -> g.sent(0, -3));
        DUE.index("byte 0 of none", () -> g.sent(1, 0));
        for (int packet : new int[] {2, -1, Integer.MIN_VALUE, Integer.MAX_VALUE}) {
            DUE.index("sent packet " + packet, () -> g.sent(packet, 0));
            DUE.index("sent packet " + packet, () -> g.sent(packet, -1));
            DUE.index("take packet " + packet, () -> g.take(packet));
        }
    }

    private static void bypassInParts() {
        Gate first = gate(-1);
        int[] p = Bytes.with(Bytes.packet(IN, OUT, 17, 9, Bytes.content(1480, 3)), 1, 2, Bytes.DONT);
        DUE.is("1500 with DONT", Bytes.come(first, 0, p), 0);
        DUE.is("in one", first.sent(1, -1), 0);
        p = Bytes.with(Bytes.packet(IN, OUT, 17, 9, Bytes.content(1481, 3)), 1, 2, Bytes.DONT);
        DUE.is("1501 with DONT", Bytes.come(first, 0, p), 6);
        DUE.is("sent stays", first.sent(0, -1), 1500);
        int[] flags = {0, 0x8000, Bytes.MORE, 100, Bytes.MORE | 8191, 0x8000 | 8006, 8007, 8006};
        for (int f : flags) {
            for (int n : new int[] {1481, 1980}) {
                Gate g = gate(-1);
                p = Bytes.with(Bytes.packet(IN, OUT, 17, 9, Bytes.content(n, 3)), 0x55, 0xFEDC, f);
                DUE.is("more than 1500", Bytes.come(g, 0, p), 0);
                int[] less = Bytes.oneHopLess(p);
                int[] one = Bytes.part(less, 0, 1480, true);
                Bytes.mend(Bytes.putPair(one, 6, f | Bytes.MORE));
                int[] two = Bytes.part(less, 1480, n - 1480, false);
                Bytes.mend(Bytes.putPair(two, 6, f & 0xE000 | (f & 8191) + 185 & 8191));
                DUE.is("the first part", Arrays.equals(Bytes.sent(g, 0), one), true);
                DUE.is("the second part", Arrays.equals(Bytes.sent(g, 1), two), true);
                DUE.is("its port", g.sent(1, -2), 1);
                g.make(IN, OUT, 1, 9, 0, 0);
                DUE.is("a small one", g.come(0), 0);
                DUE.is("no second one any more", g.sent(1, -1), 0);
                DUE.state("take(1)", () -> g.take(1));
            }
        }
    }

    private static int[] sealed(int[] p, int name, long key, long stampKey, boolean isLong, long number, int sealedBefore) {
        int[] content = Bytes.sealedContent(Bytes.text(Bytes.oneHopLess(p)), name, key, stampKey, isLong, number);
        return Bytes.with(Bytes.packet(OWN, PEER, 50, 64, content), p[1], sealedBefore & 65535,
            Bytes.pair(p, 6) & Bytes.DONT);
    }

    private static void sealing() {
        Gate g = gate(2);
        long key = 0x8123456789ABCDEFL;
        long stampKey = -77;
        g.seal(0, 2, 0x01020304, key, stampKey, false, 100);
        int before = 0;
        for (int n = 0; n < 9; n++) {
            int[] p = Bytes.with(Bytes.packet(IN, OUT, 17, 9, Bytes.content(n, 200)), n * 20, 7 * n, (n & 1) * 0xE000 | n);
            DUE.is("come", Bytes.come(g, 0, p), 0);
            int[] want = sealed(p, 0x01020304, key, stampKey, false, n + 1, before++);
            DUE.is("sealed, " + n + " bytes", Arrays.equals(Bytes.sent(g, 0), want), true);
            DUE.is("sealed at the outer port", g.sent(0, -2), 1);
            DUE.is("COUNTER", g.top(0), n + 1);
            DUE.is("LIFE", g.told(0, 3), 99 - n);
            DUE.is("ended(19)", g.ended(19), before);
            DUE.is("seen of the way out", g.seen(0), 0);
        }
        g.seal(0, 2, 999, key, stampKey, true, 100);
        for (long number : new long[] {1, 4294967295L, 4294967296L, 0x7654321089ABCDEFL, Long.MAX_VALUE}) {
            g.count(1, number - 1);
            int[] p = Bytes.packet(IN, OUT, 6, 2, Bytes.content(33, 0));
            DUE.is("come", Bytes.come(g, 0, Bytes.join(p, new int[] {9, 9})), 0);
            int[] want = sealed(p, 999, key, stampKey, true, number, before++);
            DUE.is("sealed LONG, " + number, Arrays.equals(Bytes.sent(g, 0), want), true);
        }
        DUE.is("at the end of the LONG one the other is taken", g.come(0), 0);
        DUE.is("its name", g.sent(0, 23), 4);
        before++;
        int[] p = Bytes.packet(IN, OUT, 6, 2, Bytes.content(1980, 7));
        DUE.is("come", Bytes.come(g, 0, p), 0);
        int[] want = sealed(p, 0x01020304, key, stampKey, false, g.top(0), before);
        DUE.is("2000 bytes, sealed and in parts", Arrays.equals(Bytes.sent(g, 0), Bytes.part(want, 0, 1480, true)), true);
        DUE.is("the rest", Arrays.equals(Bytes.sent(g, 1), Bytes.part(want, 1480, 540, false)), true);
        DUE.is("ended(19)", g.ended(19), before + 1);
    }

    private static void choosingSeals() {
        Gate g = gate(2);
        g.make(IN, OUT, 1, 9, 0, 0);
        DUE.is("no seal", g.come(0), 5);
        g.seal(1, 2, 300, 1, 2, false, 9);
        DUE.is("no seal of the way out", g.come(0), 5);
        g.seal(0, 1, 301, 1, 2, false, 9);
        DUE.is("no seal of the tunnel", g.come(0), 5);
        g.seal(0, 2, 302, 1, 2, false, 1);
        g.seal(0, 2, 303, 1, 2, true, 2);
        g.seal(0, 2, 304, 1, 2, false, 9);
        DUE.is("come", g.come(0), 0);
        DUE.is("the latest", g.sent(0, 23), 304 - 256);
        g.count(4, 4294967294L);
        DUE.is("come", g.come(0), 0);
        DUE.is("the latest, up to its end", g.top(4), 4294967295L);
        DUE.is("come", g.come(0), 0);
        DUE.is("one before it", g.sent(0, 23), 303 - 256);
        g.count(3, 4294967295L);
        DUE.is("come", g.come(0), 0);
        DUE.is("LONG goes on", g.top(3), 4294967296L);
        DUE.is("its LIFE is 0", g.told(3, 3), 0);
        DUE.is("so it is DEAD", g.told(3, 4), 1);
        DUE.is("stop of a DEAD one", g.stop(3), false);
        DUE.is("come", g.come(0), 0);
        DUE.is("the first", g.sent(0, 23), 302 - 256);
        DUE.is("none left", g.come(0), 5);
        g.count(4, 0);
        DUE.is("come", g.come(0), 0);
        g.stop(4);
        DUE.is("stopped", g.come(0), 5);
        DUE.is("sealed", g.ended(19), 6);
    }

    private static void sealedTooMuch() {
        Gate g = gate(2);
        g.seal(0, 2, 300, 1, 2, false, 9);
        int[] most = Bytes.with(Bytes.packet(IN, OUT, 17, 9, Bytes.content(1442, 3)), 0, 0, Bytes.DONT);
        DUE.is("1462 bytes with DONT", Bytes.come(g, 0, most), 0);
        DUE.is("come to 1500", g.sent(0, -1), 1500);
        int[] more = Bytes.with(Bytes.packet(IN, OUT, 17, 9, Bytes.content(1443, 3)), 0, 0, Bytes.DONT);
        DUE.is("1463 bytes with DONT", Bytes.come(g, 0, more), 6);
        DUE.is("COUNTER stays", g.top(0), 1);
        DUE.is("LIFE stays", g.told(0, 3), 8);
        DUE.is("none was sealed", g.ended(19), 1);
        DUE.is("sent stays", g.sent(0, -1), 1500);
        g.stop(0);
        DUE.is("5 is before 6", g.come(0), 5);
    }

    private static void taking() {
        Gate g = gate(-1);
        int[] p = Bytes.packet(IN, OUT, 17, 9, Bytes.content(1500, 3));
        Bytes.come(g, 0, p);
        DUE.is("take(1)", g.take(1), 40);
        DUE.is("the second part", Arrays.equals(Bytes.tape(g, 40), Bytes.sent(g, 1)), true);
        DUE.index("no more", () -> g.at(40));
        DUE.is("take(0)", g.take(0), 1500);
        DUE.is("the first part", Arrays.equals(Bytes.tape(g, 1500), Bytes.sent(g, 0)), true);
        g.poke(30, 1);
        DUE.is("what was sent is no tape", g.sent(0, 30), 13);
    }
}
