import java.util.Arrays;

/** Promises 15, 20 to 22, 24 to 26: what comes through the outer port, the window, the log, clear. */
public final class OuterPortTest {
    private static final Due DUE = new Due("OuterPortTest");
    private static final int OWN = 0x01020304;
    private static final int PEER = 0x85060708;
    private static final int IN = 0x0A000001;
    private static final int OUT = 0x0B000001;
    private static final long KEY = -0x123456789L;
    private static final long STAMP_KEY = 0x7766554433221100L;

    public static void main(String[] args) {
        unsealed();
        unsealedInParts();
        stampedBytes();
        reasonsInOrder();
        shapes();
        texts();
        insides();
        bigInsides();
        window();
        longNumbers();
        lives();
        log();
        clearing();
        DUE.finish();
    }

    /** Seal 0 is 300 of tunnel 1, seal 1 is 301 of tunnel 1 and LONG. */
    private static Gate gate() {
        Gate g = new Gate(OWN);
        g.route(0x0A000000, 8, 0);
        g.route(0x0B000000, 8, 1);
        g.peer(1, PEER);
        g.policy(1, 0x0B000000, 8, 0x0A000000, 8, 1);
        g.seal(1, 1, 300, KEY, STAMP_KEY, false, 1000);
        g.seal(1, 1, 301, KEY, STAMP_KEY, true, 1000);
        return g;
    }

    private static int[] inner() {
        return Bytes.packet(OUT, IN, 17, 9, Bytes.content(13, 5));
    }

    private static int[] around(int[] content) {
        return Bytes.packet(PEER, OWN, 50, 3, content);
    }

    private static int[] sealed(int name, long number, int[] text) {
        return around(Bytes.sealedContent(text, name, KEY, STAMP_KEY, name == 301, number));
    }

    private static int[] sealed(int name, long number) {
        return sealed(name, number, Bytes.text(inner()));
    }

    private static void unsealed() {
        Gate g = new Gate(OWN);
        int[] p = Bytes.packet(OUT, IN, 17, 2, Bytes.content(13, 5));
        DUE.is("BROKEN", Bytes.come(g, 1, Arrays.copyOf(p, 32)), 1);
        DUE.is("no policy", Bytes.come(g, 1, p), 16);
        g.policy(0, 0, 0, 0, 0, -1);
        DUE.is("no policy of the way in", Bytes.come(g, 1, p), 16);
        g.policy(1, OUT, 32, IN, 32, 1);
        g.policy(1, 0, 0, 0, 0, -1);
        DUE.is("the first one is a tunnel", Bytes.come(g, 1, p), 16);
        g.clear();
        g.policy(1, OUT, 32, IN, 32, -2);
        DUE.is("the first one is DISCARD", Bytes.come(g, 1, p), 16);
        g.clear();
        g.policy(1, 0, 0, 0, 0, -1);
        p[8] = 1;
        DUE.is("hops 1", Bytes.come(g, 1, Bytes.mend(p)), 2);
        p[8] = 2;
        DUE.is("no route", Bytes.come(g, 1, Bytes.mend(p)), 3);
        g.route(0, 0, 1);
        DUE.is("a route to the outer port", g.come(1), 3);
        g.route(0, 0, 0);
        DUE.is("come", g.come(1), 0);
        DUE.is("one hop less", Arrays.equals(Bytes.sent(g, 0), Bytes.oneHopLess(p)), true);
        DUE.is("at the inner port", g.sent(0, -2), 0);
        DUE.is("kind 50 to another is another packet", Bytes.come(g, 1, Bytes.packet(OUT, IN, 50, 2, new int[0])), 0);
        DUE.is("its part too", Bytes.come(g, 1, Bytes.with(Bytes.packet(OUT, IN, 50, 2, new int[3]), 0, 0, Bytes.MORE)), 0);
        DUE.is("another kind to OWN too", Bytes.come(g, 1, Bytes.packet(OUT, OWN, 51, 2, new int[0])), 0);
    }

    private static void unsealedInParts() {
        Gate g = new Gate(OWN);
        g.policy(1, 0, 0, 0, 0, -1);
        g.route(0, 0, 0);
        int[] big = Bytes.packet(OUT, IN, 1, 2, Bytes.content(1900, 1));
        DUE.is("in parts", Bytes.come(g, 1, big), 0);
        DUE.is("the second", g.sent(1, -1), 440);
        DUE.is("its port", g.sent(1, -2), 0);
        g.poke(6, 0x40);
        g.sum();
        DUE.is("TOO MUCH", g.come(1), 6);
    }

    private static void reasonsInOrder() {
        Gate g = gate();
        int[] p = sealed(300, 1);
        DUE.is("come", Bytes.come(g, 1, Bytes.join(p, new int[] {5, 6})), 0);
        DUE.is("the inner packet", Arrays.equals(Bytes.sent(g, 0), Bytes.oneHopLess(inner())), true);
        DUE.is("at the inner port", g.sent(0, -2), 0);
        DUE.is("again", g.come(1), 11);
        DUE.is("no such name", Bytes.come(g, 1, sealed(302, 2)), 9);
        int[] foreign = Bytes.mend(Bytes.putWord(sealed(300, 0), 12, PEER + 1));
        DUE.is("9 of another peer is before 10", Bytes.come(g, 1, foreign), 9);
        int[] changed = sealed(300, 0);
        changed[30] ^= 1;
        DUE.is("10 is before 12", Bytes.come(g, 1, changed), 10);
        changed = p.clone();
        changed[30] ^= 1;
        DUE.is("11 is before 12", Bytes.come(g, 1, changed), 11);
        g.stop(0);
        DUE.is("DEAD", Bytes.come(g, 1, sealed(300, 2)), 9);
        g.seal(0, 1, 400, KEY, STAMP_KEY, false, 9);
        DUE.is("a name of the way out", Bytes.come(g, 1, sealed(400, 2)), 9);
        g.peer(1, 5);
        DUE.is("the peer is another one now", Bytes.come(g, 1, sealed(301, 2)), 9);
        g.peer(1, PEER);
        DUE.is("and is again", Bytes.come(g, 1, sealed(301, 2)), 0);
    }

    /** Each byte behind the name is stamped, and the stamp is looked at to its last byte. */
    private static void stampedBytes() {
        int[] p = sealed(300, 2);
        for (int k = 24; k < p.length; k++) {
            Gate g = gate();
            g.count(0, 1);
            int[] other = p.clone();
            other[k] ^= 128;
            DUE.is("12, byte " + k, Bytes.come(g, 1, other), 12);
            DUE.is("the seal is as it was", g.top(0), 1);
            DUE.is("what was seen too", g.seen(0), 1);
            DUE.is("its LIFE too", g.told(0, 3), 1000);
            DUE.is("and takes the right one", Bytes.come(g, 1, p), 0);
        }
    }

    private static void shapes() {
        for (int size = 0; size <= 44; size++) {
            Gate g = gate();
            int[] content = Arrays.copyOf(Bytes.four(301), size);
            boolean fits = size >= 20 && size % 4 == 0;
            DUE.is("content of " + size, Bytes.come(g, 1, around(content)), fits ? 10 : 8);
            DUE.is("ended(10)", g.ended(10), fits ? 1 : 0);
            DUE.is("ended(8)", g.ended(8), fits ? 0 : 1);
        }
    }

    private static void texts() {
        Gate g = gate();
        int[][] texts = {
            {0, 0, 0, 59}, {1, 2, 2, 59}, {1, 2, 2, 4}, {0, 1, 1, 59}, {0, 2, 1, 59}, {0, 0, 3, 59}, {0, 0, 255, 4},
            {1, 1, 2, 59}, {1, 2, 2, 58}, {0, 0, 0, 0}, {1, 2, 3, 59}, {0, 0, 0, 4},
        };
        int[] want = {14, 14, 15, 14, 13, 13, 13, 13, 13, 13, 13, 15};
        for (int k = 0; k < texts.length; k++) {
            DUE.is("text " + Arrays.toString(texts[k]), Bytes.come(g, 1, sealed(300, k + 1, texts[k])), want[k]);
            DUE.is("it is SEEN all the same", g.top(0), k + 1);
            DUE.is("LIFE", g.told(0, 3), 999 - k);
        }
        // More bytes than need be are fine, up to 255 of them.
        for (int fill : new int[] {1, 5, 253}) {
            int[] text = Bytes.join(inner(), Bytes.content(fill, 1), new int[] {fill, 4});
            DUE.is(fill + " bytes", Bytes.come(g, 1, sealed(300, 20 + fill, text)), 0);
            DUE.is("the inner packet", Arrays.equals(Bytes.sent(g, 0), Bytes.oneHopLess(inner())), true);
            text[text.length - 3] ^= 64;
            DUE.is(fill + " bytes, the last one wrong", Bytes.come(g, 1, sealed(300, 21 + fill, text)), 13);
            text[text.length - 3] ^= 64;
            text[33] ^= 64;
            DUE.is(fill + " bytes, the first one wrong", Bytes.come(g, 1, sealed(300, 22 + fill, text)), 13);
        }
        int[] full = Bytes.join(Bytes.content(254, 1), new int[] {254, 59});
        DUE.is("all of the text", Bytes.come(g, 1, sealed(300, 401, full)), 14);
        full[254] = 255;
        DUE.is("one beyond the text", Bytes.come(g, 1, sealed(300, 402, full)), 13);
    }

    private static void insides() {
        Gate g = gate();
        int[] p = inner();
        DUE.is("15: longer than its LENGTH", Bytes.come(g, 1, sealed(300, 1, Bytes.text(Bytes.join(p, new int[1])))), 15);
        DUE.is("15: shorter", Bytes.come(g, 1, sealed(300, 2, Bytes.text(Arrays.copyOf(p, 32)))), 15);
        int[] sum = p.clone();
        sum[10] ^= 1;
        DUE.is("15: its SUM", Bytes.come(g, 1, sealed(300, 3, Bytes.text(sum))), 15);
        DUE.is("15: nothing", Bytes.come(g, 1, sealed(300, 4, new int[] {1, 2, 2, 4})), 15);
        int[] hops = Bytes.packet(IN, IN, 17, 0, new int[0]);
        DUE.is("16 is before 2", Bytes.come(g, 1, sealed(300, 5, Bytes.text(hops))), 16);
        g.policy(1, IN, 32, 0, 0, -1);
        DUE.is("16: BYPASS is no tunnel", Bytes.come(g, 1, sealed(300, 6, Bytes.text(hops))), 16);
        g.policy(1, OUT, 32, OUT, 32, 2);
        int[] other = Bytes.packet(OUT, OUT, 17, 0, new int[0]);
        DUE.is("16: another tunnel", Bytes.come(g, 1, sealed(300, 7, Bytes.text(other))), 16);
        g.policy(1, OUT, 8, 0, 0, 1);
        int[] third = Bytes.packet(OUT + 1, OUT, 17, 1, new int[0]);
        DUE.is("2 is before 3", Bytes.come(g, 1, sealed(300, 8, Bytes.text(third))), 2);
        third[8] = 2;
        DUE.is("3: to the outer port", Bytes.come(g, 1, sealed(300, 9, Bytes.text(Bytes.mend(third)))), 3);
        int[] nowhere = Bytes.packet(OUT + 1, 5, 17, 2, new int[0]);
        DUE.is("3: nowhere", Bytes.come(g, 1, sealed(300, 10, Bytes.text(nowhere))), 3);
        DUE.is("seen", g.seen(0), 1023);
        DUE.is("sealed by the gateway: none", g.ended(19), 0);
    }

    private static void bigInsides() {
        Gate g = gate();
        int[] big = Bytes.packet(OUT, IN, 17, 2, Bytes.content(1500, 2));
        DUE.is("6", Bytes.come(g, 1, sealed(300, 1, Bytes.text(Bytes.with(big, 0, 0, Bytes.DONT)))), 6);
        DUE.is("in parts", Bytes.come(g, 1, sealed(300, 2, Bytes.text(big))), 0);
        int[] less = Bytes.oneHopLess(big);
        DUE.is("the first", Arrays.equals(Bytes.sent(g, 0), Bytes.part(less, 0, 1480, true)), true);
        DUE.is("the second", Arrays.equals(Bytes.sent(g, 1), Bytes.part(less, 1480, 20, false)), true);
    }

    private static void window() {
        Gate g = gate();
        DUE.is("0 is OLD", Bytes.come(g, 1, sealed(300, 0)), 10);
        DUE.is("100", Bytes.come(g, 1, sealed(300, 100)), 0);
        DUE.is("36 is OLD", Bytes.come(g, 1, sealed(300, 36)), 10);
        DUE.is("37 is new", Bytes.come(g, 1, sealed(300, 37)), 0);
        DUE.is("37 again", Bytes.come(g, 1, sealed(300, 37)), 11);
        DUE.is("seen", g.seen(0), 1L << 63 | 1);
        DUE.is("top", g.top(0), 100);
        DUE.is("101", Bytes.come(g, 1, sealed(300, 101)), 0);
        DUE.is("37 is OLD now", Bytes.come(g, 1, sealed(300, 37)), 10);
        DUE.is("seen", g.seen(0), 3);
        DUE.is("99", Bytes.come(g, 1, sealed(300, 99)), 0);
        DUE.is("seen", g.seen(0), 7);
        DUE.is("164: 63 more", Bytes.come(g, 1, sealed(300, 164)), 0);
        DUE.is("seen", g.seen(0), 1L << 63 | 1);
        DUE.is("228: 64 more", Bytes.come(g, 1, sealed(300, 228)), 0);
        DUE.is("seen", g.seen(0), 1);
        g.count(0, 4294967295L);
        DUE.is("2^32 - 1 is SEEN", Bytes.come(g, 1, sealed(300, 4294967295L)), 11);
        DUE.is("2^32 - 64", Bytes.come(g, 1, sealed(300, 4294967232L)), 0);
        DUE.is("2^32 - 65", Bytes.come(g, 1, sealed(300, 4294967231L)), 10);
        DUE.is("1 is OLD", Bytes.come(g, 1, sealed(300, 1)), 10);
        g.count(0, 30);
        DUE.is("0 is OLD, not LONG", Bytes.come(g, 1, sealed(300, 0)), 10);
        DUE.is("1", Bytes.come(g, 1, sealed(300, 1)), 0);
        DUE.is("seen", g.seen(0), 1 << 29 | 1);
    }

    private static void longNumbers() {
        long two32 = 1L << 32;
        long[] tops = {0, 1, 62, 63, 64, 1000, two32 - 1, two32, two32 + 61, two32 + 62, two32 + 63, two32 + 64,
            5 * two32 + 10, 5 * two32 + 1000, Long.MAX_VALUE - two32, Long.MAX_VALUE - 1, Long.MAX_VALUE};
        long[] steps = {-65, -64, -63, -1, 0, 1, 100, two32 - 65, two32 - 64, two32 - 63};
        for (long top : tops) {
            for (long step : steps) {
                long number = top + step;
                if (number < 0) {
                    continue;
                }
                Gate g = gate();
                g.count(1, top);
                // What is not within the window's 2^32 numbers is taken for another number, so that its stamp is wrong.
                boolean isAnother = step < -63 || step >= two32 - 63;
                long taken = !isAnother ? number : step < 0 ? number + two32 : number - two32;
                int want = taken <= 0 ? 10 : taken == top ? 11 : isAnother ? 12 : 0;
                DUE.is("top " + top + ", number " + number, Bytes.come(g, 1, sealed(301, number)), want);
                DUE.is("top behind it", g.top(1), want == 0 ? Math.max(top, number) : top);
            }
        }
        Gate g = gate();
        g.count(1, Long.MAX_VALUE - 5);
        DUE.is("2^31 as the highest bits: OLD", Bytes.come(g, 1, sealed(301, 7)), 10);
        g.count(1, 10);
        DUE.is("h is 0: OLD", Bytes.come(g, 1, sealed(301, two32 - 1)), 10);
        DUE.is("h is 0, the last one that is not", Bytes.come(g, 1, sealed(301, two32 - 54)), 0);
        g.count(1, 10);
        DUE.is("h is 0: OLD", Bytes.come(g, 1, sealed(301, two32 - 53)), 10);
    }

    private static void lives() {
        Gate g = gate();
        g.seal(1, 1, 500, KEY, STAMP_KEY, false, 2);
        DUE.is("LIFE 2", Bytes.come(g, 1, sealed(500, 1)), 0);
        DUE.is("LIFE 1", Bytes.come(g, 1, sealed(500, 2, new int[] {0, 0, 0, 59})), 14);
        DUE.is("LIFE 0", Bytes.come(g, 1, sealed(500, 3)), 9);
        DUE.is("told LIFE", g.told(2, 3), 0);
        DUE.is("told DEAD", g.told(2, 4), 1);
        DUE.is("stop", g.stop(2), false);
    }

    private static void logRow(Gate g, int k, int reason, int from, int to, int name, int number) {
        int[] want = {reason, from, to, name, number};
        for (int what = 0; what < 5; what++) {
            DUE.is("log(" + k + ", " + what + ")", g.log(k, what), want[what]);
        }
    }

    private static void log() {
        Gate g = gate();
        Bytes.come(g, 1, sealed(0x89ABCDEF, 0xFEDCBA98L));
        logRow(g, 0, 9, PEER, OWN, 0x89ABCDEF, 0xFEDCBA98);
        Bytes.come(g, 1, sealed(300, 0));
        logRow(g, 0, 10, PEER, OWN, 300, 0);
        logRow(g, 1, 9, PEER, OWN, 0x89ABCDEF, 0xFEDCBA98);
        Bytes.come(g, 1, sealed(300, 7));
        Bytes.come(g, 1, sealed(300, 7));
        logRow(g, 0, 11, PEER, OWN, 300, 7);
        int[] stamp = sealed(300, 8);
        stamp[40] ^= 1;
        Bytes.come(g, 1, stamp);
        logRow(g, 0, 12, PEER, OWN, 300, 8);
        Bytes.come(g, 1, sealed(300, 9, Bytes.text(Bytes.packet(77, 78, 1, 1, new int[0]))));
        logRow(g, 0, 16, 77, 78, 300, 9);
        Bytes.come(g, 1, Bytes.packet(79, 80, 1, 1, new int[0]));
        logRow(g, 0, 16, 79, 80, 0, 0);
        int[][] unlogged = {sealed(300, 10, new int[] {0, 0, 0, 59}), sealed(300, 11, new int[] {0, 0, 0, 4}),
            sealed(300, 12, new int[4]), around(new int[5]), new int[3], sealed(300, 13),
            Bytes.with(sealed(300, 14), 0, 0, Bytes.MORE | 8191), Bytes.with(around(new int[8]), 0, 0, Bytes.MORE)};
        int[] reasons = {14, 15, 13, 8, 1, 0, 17, 7};
        for (int k = 0; k < unlogged.length; k++) {
            DUE.is("come", Bytes.come(g, 1, unlogged[k]), reasons[k]);
        }
        logRow(g, 0, 16, 79, 80, 0, 0);
        DUE.index("log(6)", () -> g.log(6, 0));
        for (int n = 0; n < 20; n++) {
            Bytes.come(g, 1, Bytes.packet(100 + n, 80, 1, 1, new int[0]));
        }
        for (int k = 0; k < 16; k++) {
            logRow(g, k, 16, 119 - k, 80, 0, 0);
        }
        DUE.index("log(16)", () -> g.log(16, 0));
        DUE.index("log what 5", () -> g.log(0, 5));
        for (int e : new int[] {-1, Integer.MIN_VALUE, Integer.MAX_VALUE}) {
            DUE.index("log", () -> g.log(e, 0));
            DUE.index("log what", () -> g.log(0, e));
            DUE.index("ended", () -> g.ended(e));
        }
        DUE.index("ended(21)", () -> g.ended(21));
        int[] ended = {2, 1, 0, 0, 0, 0, 0, 1, 1, 1, 1, 1, 1, 1, 1, 1, 22, 1, 2, 0, 1};
        for (int k = 0; k < ended.length; k++) {
            DUE.is("ended(" + k + ")", g.ended(k), ended[k]);
        }
    }

    private static void clearing() {
        Gate g = gate();
        g.policy(0, 0, 0, 0, 0, -1);
        g.seal(0, 1, 302, 1, 1, true, 5);
        g.meant(5, 6, 7);
        Bytes.come(g, 1, sealed(300, 1));
        Bytes.come(g, 1, sealed(300, 1));
        Bytes.come(g, 1, Bytes.with(around(new int[8]), 0, 0, Bytes.MORE));
        g.make(IN, OUT, 1, 9, 1480, 0);
        g.come(0);
        DUE.is("a heap is there", g.ended(20), 1);
        g.clear();
        DUE.index("the tape", () -> g.at(0));
        DUE.index("seals", () -> g.top(0));
        DUE.index("the log", () -> g.log(0, 0));
        DUE.state("sent", () -> g.take(0));
        DUE.is("sent", g.sent(0, -1), 0);
        DUE.is("sent port", g.sent(0, -2), -1);
        DUE.is("sent second", g.sent(1, -1), 0);
        for (int k = 0; k <= 20; k++) {
            DUE.is("ended(" + k + ")", g.ended(k), 0);
        }
        DUE.is("routes", g.routed(IN), -1);
        DUE.is("peers", g.peer(1, 0), 0);
        DUE.is("route", g.route(0, 0, 0), 1);
        DUE.is("policy", g.policy(1, 0, 0, 0, 0, 1), 1);
        DUE.is("seal", g.seal(1, 1, 300, KEY, STAMP_KEY, false, 9), 0);
        g.peer(1, PEER);
        DUE.is("top", g.top(0), 0);
        DUE.is("seen", g.seen(0), 0);
        DUE.is("OWN stays, numbers are new", Bytes.come(g, 1, sealed(300, 1)), 0);
        g.policy(0, 0, 0, 0, 0, 1);
        g.seal(0, 1, 301, KEY, STAMP_KEY, false, 9);
        g.route(OUT, 32, 1);
        g.make(IN, OUT, 1, 9, 0, 0);
        DUE.is("come", g.come(0), 0);
        DUE.is("NUMBER from 0", g.sent(0, 4) * 256 + g.sent(0, 5), 0);
        DUE.is("from OWN", g.sent(0, 12) << 24 | g.sent(0, 13) << 16 | g.sent(0, 14) << 8 | g.sent(0, 15), OWN);
        DUE.is("tick", g.tick(), 0);
    }
}
