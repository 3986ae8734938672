import java.util.Arrays;

/** Section 3 of the document, SEALING, and its seals' counters, windows and lives: below, at and above each boundary. */
public final class SealEdgesTest {
    private static final Due DUE = new Due("SealEdgesTest");
    private static final int OWN = 0x01020304;
    private static final int PEER = 0xF5060708;
    private static final int IN = 0x0A000001;
    private static final int OUT = 0x0B000001;
    private static final long KEY = 0xFEDCBA9876543210L;
    private static final long STAMP_KEY = 0x8000000000000001L;
    private static final long TWO_32 = 1L << 32;

    public static void main(String[] args) {
        fillings();
        keysAndNumbers();
        headOfASealedOne();
        numbersOfSealedOnes();
        tooMuchWhenSealed();
        endOfTheCounter();
        endOfTheLife();
        theLatestThatCan();
        theLatestOfSixteen();
        theNamedOfSixteen();
        sealsBeforeClear();
        outerHops();
        shapes();
        names();
        peers();
        windowOfSmallTops();
        windowAround();
        windowMoves();
        numbersOfShortSeals();
        numbersOfLongSeals();
        endsOfLongNumbers();
        highBitsAreStamped();
        untouchedUntilTheStamp();
        countAtTheEnd();
        lastByte();
        insideLength();
        lifeOfTheWayIn();
        DUE.finish();
    }

    /** All comes from and goes into tunnel 2; seal 0 is of the way out, seal 1 of the way in, with the same keys. */
    private static Gate gate(boolean isLong, int life) {
        return gate(isLong, life, KEY, STAMP_KEY);
    }

    private static Gate gate(boolean isLong, int life, long key, long stampKey) {
        Gate g = new Gate(OWN);
        g.route(0x0A000000, 8, 0);
        g.route(0x0B000000, 8, 1);
        g.peer(2, PEER);
        g.policy(0, 0, 0, 0, 0, 2);
        g.policy(1, 0, 0, 0, 0, 2);
        g.seal(0, 2, 0x10203040, key, stampKey, isLong, life);
        g.seal(1, 2, 0x10203040, key, stampKey, isLong, life);
        return g;
    }

    private static int[] content(int[] text, boolean isLong, long number) {
        return Bytes.sealedContent(text, 0x10203040, KEY, STAMP_KEY, isLong, number);
    }

    private static int[] around(int[] content) {
        return Bytes.packet(PEER, OWN, 50, 3, content);
    }

    private static int[] inner() {
        return Bytes.packet(OUT, IN, 17, 9, Bytes.content(2, 5));
    }

    private static int[] sealed(boolean isLong, long number) {
        return around(content(Bytes.text(inner()), isLong, number));
    }

    // ---- to seal

    private static int[] want(int[] p, long key, long stampKey, boolean isLong, long number, int before) {
        int[] content = Bytes.sealedContent(Bytes.text(Bytes.oneHopLess(p)), 0x10203040, key, stampKey, isLong, number);
        int[] out = Bytes.packet(OWN, PEER, 50, 64, content);
        return Bytes.with(out, p[1], before & 65535, Bytes.pair(p, 6) & Bytes.DONT);
    }

    /** Bytes 1, 2, 3, .. as few as make its length, with two more, a multiple of 4 (0 .. 3 of them). */
    private static void fillings() {
        for (int n = 0; n <= 9; n++) {
            Gate g = gate(false, 9);
            int[] p = Bytes.packet(IN, OUT, 17, 9, Bytes.content(n, 250));
            DUE.is("come", Bytes.come(g, 0, p), 0);
            DUE.is("size of " + n, g.sent(0, -1), 20 + 16 + (20 + n + 2 + 3) / 4 * 4);
            DUE.is("all of " + n, Arrays.equals(Bytes.sent(g, 0), want(p, KEY, STAMP_KEY, false, 1, 0)), true);
        }
    }

    /** The STREAM and the STAMP, of the greatest and the least keys and numbers. */
    private static void keysAndNumbers() {
        long[] keys = {0, 1, -1, Long.MIN_VALUE, Long.MAX_VALUE, 0x9E3779B97F4A7C15L};
        long[] numbers = {1, 2, 255, 256, TWO_32 - 1, TWO_32, 0x123456789ABCDEFL, Long.MAX_VALUE};
        int[] p = Bytes.packet(IN, OUT, 255, 255, Bytes.content(7, 253));
        for (long key : keys) {
            for (long number : numbers) {
                for (boolean isLong : new boolean[] {false, true}) {
                    if (isLong || number < TWO_32) {
                        Gate g = gate(isLong, 9, key, ~key);
                        g.count(0, number - 1);
                        DUE.is("come", Bytes.come(g, 0, p), 0);
                        DUE.is("key " + key + ", number " + number, Arrays.equals(Bytes.sent(g, 0),
                            want(p, key, ~key, isLong, number, 0)), true);
                    }
                }
            }
        }
    }

    /** A head with the CLASS and DONT of P, no MORE, OFFSET 0, bit 15 0, 64 HOPS, KIND 50, from OWN to the PEER. */
    private static void headOfASealedOne() {
        for (int flags : new int[] {0, 0x8000, Bytes.DONT, Bytes.MORE, 1, 0x1FFF, 0xFFFF, 0xBFFF}) {
            for (int hops : new int[] {2, 64, 65, 255}) {
                Gate g = gate(true, 9);
                int[] p = Bytes.with(Bytes.packet(IN, OUT, 6, hops, Bytes.content(5, 0)), hops, 0xABCD, flags);
                DUE.is("come", Bytes.come(g, 0, p), 0);
                int[] out = Bytes.sent(g, 0);
                int[] head = {0x45, hops, 0, out.length, 0, 0, flags >> 8 & 0x40, 0, 64, 50, out[10], out[11],
                    1, 2, 3, 4, 0xF5, 6, 7, 8};
                DUE.is("the head for " + flags, Arrays.equals(Arrays.copyOf(out, 20), head), true);
                DUE.is("its SUM", Bytes.sumIsRight(out), true);
                DUE.is("all", Arrays.equals(out, want(p, KEY, STAMP_KEY, true, 1, 0)), true);
                DUE.is("at the outer port", g.sent(0, -2), 1);
            }
        }
        Gate none = gate(false, 9);
        none.peer(2, 0);
        none.make(IN, OUT, 1, 9, 0, 0);
        DUE.is("a PEER of 0", none.come(0), 0);
        DUE.is("to 0", none.sent(0, 16) + none.sent(0, 17) + none.sent(0, 18) + none.sent(0, 19), 0);
    }

    /** A NUMBER: how many packets the gateway has sealed before; by all its seals, and only those that were sealed. */
    private static void numbersOfSealedOnes() {
        Gate g = gate(false, 1000);
        g.make(IN, OUT, 1, 9, 0, 0);
        for (int n = 0; n < 300; n++) {
            DUE.is("come", g.come(0), 0);
            DUE.is("NUMBER of " + n, g.sent(0, 4) * 256 + g.sent(0, 5), n);
            DUE.is("ended(19)", g.ended(19), n + 1);
        }
        g.seal(0, 2, 400, 1, 2, true, 2);
        DUE.is("by another seal", g.come(0), 0);
        DUE.is("it goes on", g.sent(0, 4) * 256 + g.sent(0, 5), 300);
        g.policy(1, 0, 0, 0, 0, -1);
        g.make(IN, OUT, 1, 1, 0, 0);
        g.come(0);
        g.come(1);
        g.make(IN, OUT, 1, 9, 0, 0);
        DUE.is("dropped ones do not count", g.come(0), 0);
        DUE.is("it goes on", g.sent(0, 4) * 256 + g.sent(0, 5), 301);
    }

    /** 6 the sealed packet would be TOO MUCH: 1462 bytes come to 1500. */
    private static void tooMuchWhenSealed() {
        for (int size = 1459; size <= 1466; size++) {
            for (int dont : new int[] {0, Bytes.DONT}) {
                Gate g = gate(true, 2);
                int[] p = Bytes.with(Bytes.packet(IN, OUT, 1, 9, Bytes.content(size - 20, 3)), 0, 0, dont);
                boolean isTooMuch = size > 1462 && dont != 0;
                DUE.is(size + " bytes, DONT " + dont, Bytes.come(g, 0, p), isTooMuch ? 6 : 0);
                DUE.is("COUNTER", g.top(0), isTooMuch ? 0 : 1);
                DUE.is("LIFE", g.told(0, 3), isTooMuch ? 2 : 1);
                DUE.is("sealed", g.ended(19), isTooMuch ? 0 : 1);
                DUE.is("the first", g.sent(0, -1), isTooMuch ? 0 : size > 1458 ? 1500 : 1496);
                DUE.is("the second", g.sent(1, -1), isTooMuch || size <= 1462 ? 0 : 24);
                int[] out = want(p, KEY, STAMP_KEY, true, 1, 0);
                if (size > 1462 && dont == 0) {
                    DUE.is("one", Arrays.equals(Bytes.sent(g, 0), Bytes.part(out, 0, 1480, true)), true);
                    DUE.is("two", Arrays.equals(Bytes.sent(g, 1), Bytes.part(out, 1480, 4, false)), true);
                }
            }
        }
    }

    /** COUNTER is not at its end (2^32 - 1; LONG: 2^63 - 1). */
    private static void endOfTheCounter() {
        for (boolean isLong : new boolean[] {false, true}) {
            long end = isLong ? Long.MAX_VALUE : TWO_32 - 1;
            Gate g = gate(isLong, 9);
            g.make(IN, OUT, 1, 9, 0, 0);
            g.count(0, end - 2);
            for (long number = end - 1; number > 0 && number <= end; number++) {
                DUE.is("up to its end", g.come(0), 0);
                DUE.is("COUNTER", g.top(0), number);
            }
            DUE.is("at its end", g.come(0), 5);
            DUE.is("COUNTER stays", g.top(0), end);
            DUE.is("it is not DEAD", g.told(0, 4), 0);
            DUE.is("LIFE", g.told(0, 3), 7);
        }
        Gate g = gate(true, 9);
        g.make(IN, OUT, 1, 9, 0, 0);
        g.count(0, TWO_32 - 1);
        DUE.is("a LONG one goes beyond 2^32 - 1", g.come(0), 0);
        DUE.is("COUNTER", g.top(0), TWO_32);
        DUE.is("its lowest bits", g.sent(0, 24) + g.sent(0, 25) + g.sent(0, 26) + g.sent(0, 27), 0);
    }

    /** LIFE is 1 less; DEAD when it is 0. */
    private static void endOfTheLife() {
        for (int life = 1; life <= 3; life++) {
            Gate g = gate(false, life);
            g.make(IN, OUT, 1, 9, 0, 0);
            for (int n = life; n > 0; n--) {
                DUE.is("not DEAD", g.told(0, 4), 0);
                DUE.is("come", g.come(0), 0);
                DUE.is("LIFE", g.told(0, 3), n - 1);
            }
            DUE.is("DEAD", g.told(0, 4), 1);
            DUE.is("none left", g.come(0), 5);
            DUE.is("LIFE stays", g.told(0, 3), 0);
            DUE.is("COUNTER stays", g.top(0), life);
            DUE.is("the seal of the way in has its own", g.told(1, 3), life);
        }
    }

    /** The latest of these is taken: of that tunnel and of the way out, not DEAD, not at its end. */
    private static void theLatestThatCan() {
        Gate g = gate(false, 9);
        g.make(IN, OUT, 1, 9, 0, 0);
        g.seal(0, 2, 402, 1, 2, true, 9);
        g.seal(0, 2, 403, 1, 2, false, 9);
        g.seal(0, 1, 404, 1, 2, false, 9);
        g.seal(1, 2, 405, 1, 2, false, 9);
        g.come(0);
        DUE.is("the latest", g.top(3), 1);
        g.count(3, TWO_32 - 1);
        g.come(0);
        DUE.is("that is at its end: the one before", g.top(2), 1);
        g.stop(2);
        g.come(0);
        DUE.is("that is stopped: the one before", g.top(0), 1);
        g.count(3, 7);
        g.come(0);
        DUE.is("the latest again", g.top(3), 8);
        DUE.is("of another tunnel: never", g.top(4), 0);
        DUE.is("of the way in: never", g.top(5) + g.top(1), 0);
        g.stop(3);
        g.stop(0);
        DUE.is("none", g.come(0), 5);
    }

    /** Of 16 seals the latest is taken, until it is DEAD, and so on down to the first one. */
    private static void theLatestOfSixteen() {
        Gate g = new Gate(OWN);
        g.route(0, 0, 1);
        g.policy(0, 0, 0, 0, 0, 2);
        for (int n = 0; n < 16; n++) {
            g.seal(0, 2, 0x10203040 + n, KEY, STAMP_KEY, false, 2);
        }
        g.make(IN, OUT, 1, 9, 0, 0);
        for (int n = 15; n >= 0; n--) {
            for (int life = 1; life >= 0; life--) {
                DUE.is("come", g.come(0), 0);
                DUE.is("the name of " + n, g.sent(0, 23), 0x40 + n);
                DUE.is("LIFE of " + n, g.told(n, 3), life);
            }
        }
        DUE.is("none left", g.come(0), 5);
    }

    /** Of 16 seals of the way in the one with its NAME opens it. */
    private static void theNamedOfSixteen() {
        Gate g = new Gate(OWN);
        g.route(0, 0, 0);
        g.peer(2, PEER);
        g.policy(1, 0, 0, 0, 0, 2);
        for (int n = 0; n < 16; n++) {
            g.seal(1, 2, 1000 + n, n, -n, (n & 1) == 1, 9);
        }
        for (int n = 15; n >= 0; n--) {
            int[] content = Bytes.sealedContent(Bytes.text(inner()), 1000 + n, n, -n, (n & 1) == 1, 50 + n);
            DUE.is("by the name of " + n, Bytes.come(g, 1, around(content)), 0);
            DUE.is("top of " + n, g.top(n), 50 + n);
        }
    }

    /** clear: none of the seals that were there is used or named. */
    private static void sealsBeforeClear() {
        Gate g = new Gate(OWN);
        for (int n = 0; n < 16; n++) {
            g.seal(n & 1, 2, 0x10203040 + n / 2, KEY, STAMP_KEY, false, 9);
        }
        g.clear();
        g.route(IN, 32, 0);
        g.route(OUT, 32, 1);
        g.peer(2, PEER);
        g.policy(0, 0, 0, 0, 0, 2);
        g.policy(1, 0, 0, 0, 0, 2);
        g.make(IN, OUT, 1, 9, 0, 0);
        DUE.is("none to seal with", g.come(0), 5);
        DUE.is("none to open with", Bytes.come(g, 1, sealed(false, 1)), 9);
        DUE.is("its name is free", g.seal(1, 2, 0x10203040, KEY, STAMP_KEY, false, 9), 0);
        DUE.is("one to open with", Bytes.come(g, 1, sealed(false, 1)), 0);
        g.make(IN, OUT, 1, 9, 0, 0);
        DUE.is("still none to seal with", g.come(0), 5);
        DUE.index("no seal 1", () -> g.top(1));
    }

    // ---- to open

    /** Only the HOPS of the inner packet are looked at. */
    private static void outerHops() {
        for (int hops : new int[] {0, 1, 2, 255}) {
            int[] p = sealed(false, 1);
            p[8] = hops;
            DUE.is("sealed, hops " + hops, Bytes.come(gate(false, 9), 1, Bytes.mend(p)), 0);
        }
    }

    /** 8 its content has less than 20 bytes, or without the 16 of NAME, number and STAMP no multiple of 4. */
    private static void shapes() {
        for (int n = 0; n <= 33; n++) {
            Gate g = gate(false, 9);
            int text = n - 16;
            boolean fits = text >= 4 && text % 4 == 0;
            int[] content = fits ? content(new int[text], false, 1) : Bytes.content(n, 1);
            DUE.is("content of " + n, Bytes.come(g, 1, around(content)), fits ? 13 : 8);
            DUE.is("the seal", g.top(1), fits ? 1 : 0);
            DUE.index("no row of the log", () -> g.log(0, 0));
        }
        Gate behind = gate(false, 9);
        DUE.is("bytes behind LENGTH do not count", Bytes.come(behind, 1, Bytes.join(sealed(false, 1), new int[3])), 0);
    }

    /** 9 no seal of the way in has its NAME. */
    private static void names() {
        for (int k = 20; k < 24; k++) {
            Gate g = gate(false, 9);
            int[] p = sealed(false, 1);
            p[k] ^= 128;
            DUE.is("another name by byte " + k, Bytes.come(g, 1, p), 9);
            DUE.is("the name in the log", g.log(0, 3), Bytes.word(p, 20));
        }
        Gate out = new Gate(OWN);
        out.peer(2, PEER);
        out.seal(0, 2, 0x10203040, KEY, STAMP_KEY, false, 9);
        DUE.is("a seal of the way out has it", Bytes.come(out, 1, sealed(false, 1)), 9);
        Gate stopped = gate(false, 9);
        stopped.stop(0);
        DUE.is("the one of the way out is stopped", Bytes.come(stopped, 1, sealed(false, 1)), 0);
        stopped.stop(1);
        DUE.is("that of the way in is", Bytes.come(stopped, 1, sealed(false, 2)), 9);
    }

    /** .. or the packet is not from its tunnel's PEER. */
    private static void peers() {
        for (int from : new int[] {PEER - 1, PEER, PEER + 1, PEER ^ Integer.MIN_VALUE, 0, OWN}) {
            Gate g = gate(false, 9);
            int[] p = Bytes.mend(Bytes.putWord(sealed(false, 1), 12, from));
            DUE.is("from " + from, Bytes.come(g, 1, p), from == PEER ? 0 : 9);
        }
        Gate g = gate(false, 9);
        g.peer(1, PEER);
        g.peer(2, 0);
        DUE.is("the peer of another tunnel", Bytes.come(g, 1, sealed(false, 1)), 9);
        DUE.is("a PEER of 0", Bytes.come(g, 1, Bytes.mend(Bytes.putWord(sealed(false, 1), 12, 0))), 0);
    }

    private static int opens(boolean isLong, long top, long number) {
        Gate g = gate(isLong, 9);
        g.count(1, top);
        return Bytes.come(g, 1, sealed(isLong, number));
    }

    /** Numbers below these, and 0, are OLD: where the window goes below 1. */
    private static void windowOfSmallTops() {
        for (int top : new int[] {0, 1, 2, 62, 63, 64, 65}) {
            for (int number : new int[] {0, 1, 2, 3, 61, 62, 63, 64, 65, 66, 130}) {
                boolean isOld = number == 0 || number < top - 63;
                int want = isOld ? 10 : number == top ? 11 : 0;
                DUE.is("number " + number + " with top " + top, opens(false, top, number), want);
                if (number >= top - 63) {
                    DUE.is("LONG, number " + number + " with top " + top, opens(true, top, number), want);
                }
            }
        }
    }

    /** Numbers above TOP are new; those from TOP - 63 on to TOP are, if they were not SEEN; below these OLD. */
    private static void windowAround() {
        for (long top : new long[] {100, 1000, TWO_32 - 200, TWO_32 - 1}) {
            for (int step = -66; step <= 66; step++) {
                long number = top + step;
                if (number < TWO_32) {
                    int want = step < -63 ? 10 : step == 0 ? 11 : 0;
                    Gate g = gate(false, 9);
                    g.count(1, top);
                    DUE.is("top " + top + " by " + step, Bytes.come(g, 1, sealed(false, number)), want);
                    DUE.is("top behind it", g.top(1), Math.max(top, number));
                    long seen = want != 0 ? 1 : step < 0 ? 1 | 1L << -step : step < 64 ? 1 | 1L << step : 1;
                    DUE.is("seen behind it", g.seen(1), seen);
                    DUE.is("LIFE behind it", g.told(1, 3), want == 0 ? 8 : 9);
                    if (want == 0) {
                        DUE.is("again", g.come(1), 11);
                    }
                }
            }
        }
    }

    /** Which of the 64 numbers up to TOP were SEEN: bit k for TOP - k, also when TOP goes on. */
    private static void windowMoves() {
        for (int step : new int[] {1, 2, 31, 32, 33, 62, 63, 64, 65, 1000}) {
            Gate g = gate(false, 99);
            g.count(1, 500);
            for (int number : new int[] {437, 438, 469, 498, 499}) {
                DUE.is("come", Bytes.come(g, 1, sealed(false, number)), 0);
            }
            long before = 1L << 63 | 1L << 62 | 1L << 31 | 7;
            DUE.is("seen", g.seen(1), before);
            DUE.is("come", Bytes.come(g, 1, sealed(false, 500 + step)), 0);
            DUE.is("top by " + step, g.top(1), 500 + step);
            DUE.is("seen by " + step, g.seen(1), step > 63 ? 1 : before << step | 1);
            DUE.is("the old top", Bytes.come(g, 1, sealed(false, 500)), step > 63 ? 10 : 11);
            int lowest = 500 + step - 63;
            DUE.is("the lowest in it", Bytes.come(g, 1, sealed(false, lowest)), seenBefore(lowest));
            DUE.is("the one below", Bytes.come(g, 1, sealed(false, lowest - 1)), 10);
        }
    }

    private static int seenBefore(int number) {
        return Arrays.binarySearch(new int[] {437, 438, 469, 498, 499, 500}, number) >= 0 ? 11 : 0;
    }

    /** Not LONG: l; it does not wrap around. */
    private static void numbersOfShortSeals() {
        DUE.is("2^32 - 1 with top 0", opens(false, 0, TWO_32 - 1), 0);
        DUE.is("1 with top 2^32 - 1", opens(false, TWO_32 - 1, 1), 10);
        DUE.is("0 with top 2^32 - 1", opens(false, TWO_32 - 1, 0), 10);
        DUE.is("2^32 - 1 with top 10", opens(false, 10, TWO_32 - 1), 0);
        DUE.is("2^31 with top 2^31 - 1", opens(false, TWO_32 / 2 - 1, TWO_32 / 2), 0);
        DUE.is("2^31 - 1 with top 2^31", opens(false, TWO_32 / 2, TWO_32 / 2 - 1), 0);
    }

    /** LONG: the highest bits are h, h + 1 or h - 1, by t and l. */
    private static void numbersOfLongSeals() {
        for (long high : new long[] {1, 2, 0x7FFFFFFE}) {
            for (long t : new long[] {0, 1, 61, 62, 63, 64, 65, 1000, TWO_32 - 2, TWO_32 - 1}) {
                long top = high * TWO_32 + t;
                for (int d = -2; d <= 2; d++) {
                    long number = top - 63 + d + (d < 0 ? TWO_32 : 0);
                    DUE.is("top " + top + ", window's edge by " + d, opens(true, top, number), 0);
                }
                DUE.is("top " + top + " itself", opens(true, top, top), 11);
                DUE.is("top " + top + ", one more", opens(true, top, top + 1), 0);
            }
        }
        for (long t : new long[] {0, 62, 63, 64, 1000}) {
            long top = 3 * TWO_32 + t;
            DUE.is("64 below: another number, so another stamp", opens(true, top, top - 64), 12);
            DUE.is("2^32 - 63 above: another number too", opens(true, top, top + TWO_32 - 63), 12);
            DUE.is("2^32 above is top itself", opens(true, top, top + TWO_32), 11);
        }
    }

    /** There is none if that is 2^31, or if h is 0: it is OLD. */
    private static void endsOfLongNumbers() {
        long last = Long.MAX_VALUE;
        long high = last - (TWO_32 - 1);
        for (long t : new long[] {63, 64, 1000, TWO_32 - 1}) {
            for (int d = -2; d <= 2; d++) {
                long l = t - 63 + d;
                if (l >= 0 && l < TWO_32) {
                    DUE.is("h at its end, t " + t + ", edge by " + d, opens(true, high + t, high + l), d < 0 ? 10 : 0);
                }
            }
        }
        DUE.is("2^63 - 1 is new", opens(true, last - 1, last), 0);
        DUE.is("2^63 - 1 is SEEN", opens(true, last, last), 11);
        DUE.is("0 behind it is OLD", opens(true, last, 0), 10);
        for (long t : new long[] {0, 1, 10, 61, 62}) {
            for (int d = -2; d <= 2; d++) {
                long l = t - 63 + TWO_32 + d;
                if (l < TWO_32) {
                    DUE.is("h is 0, t " + t + ", edge by " + d, opens(true, t, l), d < 0 ? 0 : 10);
                }
            }
            DUE.is("h is 0, l is 2^32 - 1", opens(true, t, TWO_32 - 1), 10);
        }
        DUE.is("t is 63: 2^32 - 1 is new", opens(true, 63, TWO_32 - 1), 0);
        DUE.is("t is 63: 0 is OLD", opens(true, 63, 0), 10);
        DUE.is("t is 64: 0 is 2^32", opens(true, 64, TWO_32), 0);
        DUE.is("h is 1, t is 63: 2^32 is no 0", opens(true, TWO_32 + 63, TWO_32), 0);
    }

    /** The STAMP, if the seal is LONG, of the highest 32 bits too, which do not stand in the packet. */
    private static void highBitsAreStamped() {
        Gate g = gate(true, 9);
        g.count(1, 5 * TWO_32 + 500);
        DUE.is("without them", Bytes.come(g, 1, around(Bytes.sealedContent(Bytes.text(inner()), 0x10203040, KEY,
            STAMP_KEY, false, 5 * TWO_32 + 501))), 12);
        DUE.is("with others", Bytes.come(g, 1, sealed(true, 4 * TWO_32 + 501)), 12);
        DUE.is("with these", Bytes.come(g, 1, sealed(true, 5 * TWO_32 + 501)), 0);
        Gate low = gate(false, 9);
        DUE.is("not LONG: with them", Bytes.come(low, 1, sealed(true, 1)), 12);
        DUE.is("not LONG: without them", Bytes.come(low, 1, sealed(false, 1)), 0);
    }

    /** Until here the seal is as it was: 8 to 12. */
    private static void untouchedUntilTheStamp() {
        int[] stamp = sealed(false, 102);
        stamp[stamp.length - 1] ^= 1;
        int[] name = sealed(false, 102);
        name[23] ^= 1;
        int[][] rows = {around(new int[19]), name, sealed(false, 0), sealed(false, 36), sealed(false, 100), stamp};
        int[] reasons = {8, 9, 10, 10, 11, 12};
        for (int k = 0; k < rows.length; k++) {
            Gate g = gate(false, 9);
            g.count(1, 100);
            DUE.is("come", Bytes.come(g, 1, rows[k]), reasons[k]);
            DUE.is("top behind " + reasons[k], g.top(1), 100);
            DUE.is("seen behind " + reasons[k], g.seen(1), 1);
            DUE.is("LIFE behind " + reasons[k], g.told(1, 3), 9);
            DUE.is("nothing sent", g.sent(0, -1), 0);
        }
    }

    private static int opensText(int[] text) {
        Gate g = gate(false, 9);
        int reason = Bytes.come(g, 1, around(content(text, false, 70)));
        DUE.is("its number is SEEN", g.seen(1), 1);
        DUE.is("TOP is that", g.top(1), 70);
        DUE.is("LIFE is 1 less", g.told(1, 3), 8);
        return reason;
    }

    /** 13 the count of bytes told at its end goes beyond the TEXT, or these are not 1, 2, 3, .. */
    private static void countAtTheEnd() {
        for (int size : new int[] {4, 8, 100, 252, 256, 260}) {
            for (int fill : new int[] {0, 1, 2, 3, size - 3, size - 2, size - 1, size, 254, 255}) {
                if (fill > 255) {
                    continue;
                }
                int[] text = new int[size];
                int front = Math.max(0, size - 2 - fill);
                for (int k = 0; k < Math.min(fill, size - 2); k++) {
                    text[front + k] = k + 1;
                }
                text[size - 2] = fill;
                text[size - 1] = 59;
                boolean fits = fill <= size - 2;
                DUE.is("a count of " + fill + " in " + size, opensText(text), fits ? 14 : 13);
                if (fits && fill > 0) {
                    for (int k : new int[] {front, front + fill - 1, front + fill / 2}) {
                        int[] other = text.clone();
                        other[k] ^= 128;
                        DUE.is("byte " + k + " another", opensText(other), 13);
                        other[k] = text[k] - 1;
                        DUE.is("byte " + k + " one less", opensText(other), 13);
                    }
                }
            }
        }
    }

    /** Its last byte is 59: 14; it is not 4: 13. */
    private static void lastByte() {
        for (int last = 0; last < 256; last++) {
            int[] text = Bytes.text(inner());
            text[text.length - 1] = last;
            DUE.is("last byte " + last, opensText(text), last == 4 ? 0 : last == 59 ? 14 : 13);
        }
        DUE.is("13 for the count goes before 14", opensText(new int[] {1, 2, 3, 59}), 13);
        DUE.is("an empty one", opensText(new int[] {1, 2, 2, 59}), 14);
        DUE.is("an empty one that should be a packet", opensText(new int[] {1, 2, 2, 4}), 15);
    }

    /** 15 BROKEN, or its LENGTH is not all of it. */
    private static void insideLength() {
        int[] p = inner();
        for (int length : new int[] {0, 19, 20, p.length - 1, p.length, p.length + 1, 65535}) {
            int[] b = Bytes.mend(Bytes.putPair(p.clone(), 2, length));
            DUE.is("LENGTH " + length + " inside", opensText(Bytes.text(b)), length == p.length ? 0 : 15);
        }
        for (int n = 0; n <= 21; n++) {
            int[] b = n < 20 ? new int[n] : Bytes.packet(OUT, IN, 1, 9, new int[n - 20]);
            DUE.is(n + " bytes inside", opensText(Bytes.text(b)), n < 20 ? 15 : 0);
        }
        for (int k = 0; k < 20; k++) {
            int[] b = p.clone();
            b[k] ^= 16;
            DUE.is("byte " + k + " inside", opensText(Bytes.text(b)), 15);
        }
        int[] first = p.clone();
        first[0] = 0x46;
        DUE.is("byte 0 inside", opensText(Bytes.text(Bytes.mend(first))), 15);
    }

    /** LIFE is 1 less for each that fits its stamp, and then it is DEAD: 9. */
    private static void lifeOfTheWayIn() {
        for (int life = 1; life <= 3; life++) {
            Gate g = gate(true, life);
            for (int n = 1; n <= life; n++) {
                DUE.is("not DEAD", g.told(1, 4), 0);
                DUE.is("come", Bytes.come(g, 1, sealed(true, n)), 0);
                DUE.is("LIFE", g.told(1, 3), life - n);
            }
            DUE.is("DEAD", g.told(1, 4), 1);
            DUE.is("9", Bytes.come(g, 1, sealed(true, life + 1)), 9);
            DUE.is("9 is before 11", Bytes.come(g, 1, sealed(true, life)), 9);
            DUE.is("top stays", g.top(1), life);
        }
    }
}
