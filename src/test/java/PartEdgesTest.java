import java.util.Arrays;

/** Section 4 of the document, PARTS, and promise 23: below, at and above each boundary. */
public final class PartEdgesTest {
    private static final Due DUE = new Due("PartEdgesTest");
    private static final int OWN = 0x01020304;
    private static final int PEER = 0x05060708;
    private static final int INSIDE = 0x0A000001;

    public static void main(String[] args) {
        moreThan1500();
        moreThan1500Inside();
        offsets();
        whoseHeap();
        partsOfOthers();
        moreAndNoMultipleOf8();
        beyond1980();
        bytesThatAreThere();
        secondLastOnes();
        bytesBehindTheEnd();
        beyondTheEnd();
        wrongOnesTakeTheirHeap();
        wrongOnesWithoutAHeap();
        fourHeaps();
        begunFirst();
        wholeOf1980();
        wholesOfEachSize();
        manyParts();
        wholesThatDoNotFit();
        eighthTick();
        ticksOfSeveral();
        heapsBehindClear();
        DUE.finish();
    }

    // ---- to send

    private static Gate open() {
        Gate g = new Gate(OWN);
        g.route(0x0A000000, 8, 0);
        g.route(0x0B000000, 8, 1);
        g.policy(0, 0, 0, 0, 0, -1);
        g.policy(1, 0, 0, 0, 0, -1);
        return g;
    }

    /** A packet of more than 1500 bytes (it is TOO MUCH when it has DONT): in two parts. */
    private static void moreThan1500() {
        for (int size : new int[] {1499, 1500, 1501, 1502, 1999, 2000}) {
            for (int dont : new int[] {0, Bytes.DONT}) {
                for (int port = 0; port <= 1; port++) {
                    int to = port == 0 ? 0x0B000001 : INSIDE;
                    int[] p = Bytes.with(Bytes.packet(9, to, 1, 9, Bytes.content(size - 20, 7)), 3, 4, dont);
                    Gate g = open();
                    boolean isTooMuch = size > 1500 && dont != 0;
                    DUE.is(size + " bytes, DONT " + dont, Bytes.come(g, port, p), isTooMuch ? 6 : 0);
                    int[] less = Bytes.oneHopLess(p);
                    int[] one = isTooMuch ? new int[0] : size <= 1500 ? less : Bytes.part(less, 0, 1480, true);
                    int[] two = isTooMuch || size <= 1500 ? new int[0] : Bytes.part(less, 1480, size - 1500, false);
                    DUE.is("the first of " + size, Arrays.equals(Bytes.sent(g, 0), one), true);
                    DUE.is("the second of " + size, Arrays.equals(Bytes.sent(g, 1), two), true);
                    DUE.is("port of the first", g.sent(0, -2), isTooMuch ? -1 : 1 - port);
                    DUE.is("port of the second", g.sent(1, -2), two.length == 0 ? -1 : 1 - port);
                    sentEdges(g, one.length, two.length);
                }
            }
        }
    }

    /** sent and take: there is no such byte, no such packet. */
    private static void sentEdges(Gate g, int one, int two) {
        int[] sizes = {one, two};
        for (int p = 0; p < 2; p++) {
            int packet = p;
            int n = sizes[p];
            DUE.is("how many", g.sent(packet, -1), n);
            DUE.index("byte " + n, () -> g.sent(packet, n));
            DUE.index("byte -3", () -> g.sent(packet, -3));
            if (n == 0) {
                DUE.state("take of none", () -> g.take(packet));
            } else {
                DUE.is("take", g.take(packet), n);
                DUE.is("its last byte", g.at(n - 1), g.sent(packet, n - 1));
                DUE.index("no more", () -> g.at(n));
            }
        }
    }

    /** A packet that was sealed is sent in parts too. */
    private static void moreThan1500Inside() {
        for (int size : new int[] {1499, 1500, 1501}) {
            for (int dont : new int[] {0, Bytes.DONT}) {
                Gate g = gate();
                int[] p = Bytes.with(Bytes.packet(9, INSIDE, 1, 9, Bytes.content(size - 20, 7)), 3, 4, dont);
                int[] sealed = around(p, 1);
                boolean isTooMuch = size > 1500 && dont != 0;
                DUE.is(size + " bytes inside, DONT " + dont, Bytes.come(g, 1, sealed), isTooMuch ? 6 : 0);
                DUE.is("the first", g.sent(0, -1), isTooMuch ? 0 : Math.min(size, 1500));
                DUE.is("the second", g.sent(1, -1), isTooMuch || size <= 1500 ? 0 : 21);
                DUE.is("it is SEEN", g.top(0), 1);
            }
        }
    }

    /** .. MORE and its OFFSET; with the rest, MORE as it had it, and 185 more as OFFSET (its lowest 13 bits). */
    private static void offsets() {
        int[] offsets = {0, 1, 7, 8005, 8006, 8007, 8008, 8191};
        for (int offset : offsets) {
            for (int top : new int[] {0, Bytes.MORE, 0x8000, 0x8000 | Bytes.MORE}) {
                int[] p = Bytes.with(Bytes.packet(9, 0x0B000001, 17, 255, Bytes.content(1489, 7)), 255, 0xFEDC, top | offset);
                Gate g = open();
                DUE.is("come", Bytes.come(g, 0, p), 0);
                int[] less = Bytes.oneHopLess(p);
                int[] one = Bytes.part(less, 0, 1480, true);
                int[] two = Bytes.part(less, 1480, 9, true);
                Bytes.mend(Bytes.putPair(one, 6, top | Bytes.MORE | offset));
                Bytes.mend(Bytes.putPair(two, 6, top | (offset + 185) % 8192));
                DUE.is("the first of " + offset, Arrays.equals(Bytes.sent(g, 0), one), true);
                DUE.is("the second of " + offset, Arrays.equals(Bytes.sent(g, 1), two), true);
            }
        }
    }

    // ---- heaps

    private static Gate gate() {
        Gate g = new Gate(OWN);
        g.route(0, 0, 0);
        g.peer(0, PEER);
        g.policy(1, 0, 0, 0, 0, 0);
        g.seal(1, 0, 300, 1, 2, false, 1000);
        return g;
    }

    private static int[] around(int[] inner, long number) {
        int[] content = Bytes.sealedContent(Bytes.text(inner), 300, 1, 2, false, number);
        return Bytes.with(Bytes.packet(PEER, OWN, 50, 3, content), 0, 7, 0);
    }

    private static int[] part(int offset, int n, boolean more, int number) {
        int[] p = Bytes.packet(PEER, OWN, 50, 3, Bytes.content(n, offset));
        return Bytes.with(p, 0, number, (more ? Bytes.MORE : 0) | offset);
    }

    private static int keep(Gate g, int offset, int n, boolean more) {
        return Bytes.come(g, 1, part(offset, n, more, 1));
    }

    private static boolean isKept(Gate g, int number) {
        int before = g.ended(20);
        int reason = Bytes.come(g, 1, part(100, 8, true, number));
        DUE.is("a heap goes or comes", Math.abs(g.ended(20) - before), reason == 17 || before < 4 ? 1 : 0);
        return reason == 17;
    }

    /** Each by from whom they are and their NUMBER. */
    private static void whoseHeap() {
        int[] base = part(1, 8, true, 0x1234);
        for (int k = 0; k < 20; k++) {
            if (k == 0 || k == 2 || k == 3 || k == 6 || k == 7 || k == 9 || k >= 16) {
                continue;
            }
            Gate g = gate();
            DUE.is("a part", Bytes.come(g, 1, base), 7);
            int[] other = base.clone();
            other[k] ^= 128;
            boolean isAnother = k == 4 || k == 5 || k >= 12;
            DUE.is("byte " + k + " another", Bytes.come(g, 1, Bytes.mend(other)), isAnother ? 7 : 17);
            DUE.is("heaps", g.ended(20), isAnother ? 2 : 0);
        }
        for (int flags : new int[] {0x4000, 0x8000, 0xC000}) {
            Gate g = gate();
            Bytes.come(g, 1, base);
            DUE.is("bits 14 and 15 are no matter", Bytes.come(g, 1, Bytes.with(base, 0, 0x1234, flags | Bytes.MORE | 1)), 17);
        }
    }

    /** HEAPS are kept of parts of sealed packets: of KIND 50 to the OWN address, through the outer port. */
    private static void partsOfOthers() {
        Gate g = gate();
        int[] p = part(1, 8, true, 1);
        for (int kind : new int[] {49, 51, 17}) {
            int[] other = p.clone();
            other[9] = kind;
            DUE.is("kind " + kind, Bytes.come(g, 1, Bytes.mend(other)), 16);
        }
        for (int k = 16; k < 20; k++) {
            int[] other = p.clone();
            other[k] ^= 1;
            DUE.is("to another by byte " + k, Bytes.come(g, 1, Bytes.mend(other)), 16);
        }
        int[] broken = p.clone();
        broken[10] ^= 1;
        DUE.is("BROKEN", Bytes.come(g, 1, broken), 1);
        DUE.is("through the inner port", Bytes.come(g, 0, p), 3);
        DUE.is("no heap", g.ended(20), 0);
        DUE.is("through the outer port", Bytes.come(g, 1, p), 7);
        DUE.is("a heap", g.ended(20), 1);
    }

    /** It has MORE and its content has no byte, or no multiple of 8. */
    private static void moreAndNoMultipleOf8() {
        for (int offset : new int[] {0, 1, 5}) {
            for (int n = 0; n <= 25; n++) {
                boolean isWrong = n == 0 || n % 8 != 0;
                Gate g = gate();
                DUE.is(n + " bytes with MORE at " + offset, keep(g, offset, n, true), isWrong ? 17 : 7);
                DUE.is("heaps", g.ended(20), isWrong ? 0 : 1);
                DUE.is("ended(17)", g.ended(17), isWrong ? 1 : 0);
                DUE.is("ended(7)", g.ended(7), isWrong ? 0 : 1);
                if (offset > 0) {
                    DUE.is(n + " bytes without MORE", keep(gate(), offset, n, false), 7);
                }
            }
        }
    }

    /** Its content would end beyond byte 1980 of the whole. */
    private static void beyond1980() {
        for (int offset : new int[] {245, 246, 247, 248, 249, 8191}) {
            for (int n = 0; n <= 24; n++) {
                int end = 8 * offset + n;
                DUE.is("a last one up to " + end, keep(gate(), offset, n, false), end > 1980 ? 17 : 7);
                if (n > 0 && n % 8 == 0) {
                    DUE.is("one up to " + end, keep(gate(), offset, n, true), end > 1980 ? 17 : 7);
                }
            }
        }
        DUE.is("all up to 1976 in one", keep(gate(), 0, 1976, true), 7);
        DUE.is("a last one from 8 to 1980", keep(gate(), 1, 1972, false), 7);
        DUE.is("a last one from 8 to 1981", keep(gate(), 1, 1973, false), 17);
    }

    /** A byte of it is there already: 8 .. 23 are. */
    private static void bytesThatAreThere() {
        for (int offset = 0; offset <= 4; offset++) {
            for (int n = 8; n <= 32; n += 8) {
                boolean isThere = offset < 3 && 8 * offset + n > 8;
                Gate g = gate();
                DUE.is("8 .. 23", keep(g, 1, 16, true), 7);
                DUE.is(n + " bytes at " + 8 * offset, keep(g, offset, n, true), isThere ? 17 : 7);
                DUE.is("heaps", g.ended(20), isThere ? 0 : 1);
            }
        }
        for (int n = 0; n <= 9; n++) {
            Gate g = gate();
            DUE.is("a last one of " + n + " at 24", keep(g, 3, n, false), 7);
            DUE.is("its place", keep(g, 3, 8, true), 17);
            Gate before = gate();
            DUE.is("a last one of " + n + " at 24", keep(before, 3, n, false), 7);
            DUE.is("the place before it", keep(before, 2, 8, true), 7);
        }
    }

    /** It is a last one (no MORE), and there was one. */
    private static void secondLastOnes() {
        for (int offset = 1; offset <= 4; offset++) {
            for (int n : new int[] {0, 1, 8}) {
                Gate g = gate();
                DUE.is("a last one from 16 to 20", keep(g, 2, 4, false), 7);
                DUE.is("a last one of " + n + " at " + 8 * offset, keep(g, offset, n, false), 17);
                DUE.is("heaps", g.ended(20), 0);
            }
        }
        Gate g = gate();
        DUE.is("a last one of none at 16", keep(g, 2, 0, false), 7);
        DUE.is("the same again", keep(g, 2, 0, false), 17);
    }

    /** .. or bytes behind its end are there: 32 .. 39 are. */
    private static void bytesBehindTheEnd() {
        int[][] rows = {{1, 0}, {1, 8}, {2, 15}, {2, 16}, {3, 7}, {3, 8}, {4, 0}};
        for (int[] row : rows) {
            Gate g = gate();
            keep(g, 4, 8, true);
            DUE.is("a last one up to " + (8 * row[0] + row[1]), keep(g, row[0], row[1], false), 17);
            DUE.is("heaps", g.ended(20), 0);
        }
        // What was laid last, or how much there is, is no matter: the farthest byte counts.
        for (int[] row : rows) {
            Gate g = gate();
            keep(g, 4, 8, true);
            keep(g, 0, 8, true);
            DUE.is("a last one up to " + (8 * row[0] + row[1]) + " behind two", keep(g, row[0], row[1], false), 17);
        }
        int[][] good = {{5, 0}, {5, 1}, {5, 8}, {6, 0}};
        for (int[] row : good) {
            Gate g = gate();
            keep(g, 4, 8, true);
            DUE.is("a last one up to " + (8 * row[0] + row[1]), keep(g, row[0], row[1], false), 7);
            DUE.is("heaps", g.ended(20), 1);
        }
    }

    /** It ends beyond the end that a last one told: 40, or one less or more. */
    private static void beyondTheEnd() {
        for (int end : new int[] {39, 40, 41}) {
            for (int offset = 0; offset <= 6; offset++) {
                for (int n = 8; n <= 24; n += 8) {
                    Gate g = gate();
                    // The last one has as few bytes as can be: of 40 none, so that only its end counts.
                    int at = end / 8;
                    keep(g, at, end % 8, false);
                    boolean isWrong = 8 * offset + n > 8 * at;
                    DUE.is("up to " + (8 * offset + n) + " of " + end, keep(g, offset, n, true), isWrong ? 17 : 7);
                    DUE.is("heaps", g.ended(20), isWrong ? 0 : 1);
                }
            }
        }
    }

    /** Then its heap goes; the others stay, and a part behind that begins anew. */
    private static void wrongOnesTakeTheirHeap() {
        int[][] wrong = {{1, 8, 1}, {9, 0, 1}, {9, 4, 1}, {247, 5, 0}, {1, 0, 0}, {0, 16, 1}};
        for (int[] row : wrong) {
            Gate g = gate();
            for (int number = 1; number <= 3; number++) {
                DUE.is("a part", Bytes.come(g, 1, part(1, 8, true, number)), 7);
            }
            DUE.is("a wrong one", Bytes.come(g, 1, part(row[0], row[1], row[2] == 1, 2)), 17);
            DUE.is("one heap less", g.ended(20), 2);
            DUE.is("anew", Bytes.come(g, 1, part(1, 8, true, 2)), 7);
            DUE.is("the first is there", Bytes.come(g, 1, part(1, 8, true, 1)), 17);
            DUE.is("the third is there", Bytes.come(g, 1, part(1, 8, true, 3)), 17);
            DUE.is("heaps", g.ended(20), 1);
        }
    }

    /** If it has none, nothing happens: none goes, also when there are 4. */
    private static void wrongOnesWithoutAHeap() {
        Gate g = gate();
        for (int number = 1; number <= 4; number++) {
            Bytes.come(g, 1, part(100, 8, true, number));
        }
        DUE.is("no multiple of 8", Bytes.come(g, 1, part(1, 4, true, 5)), 17);
        DUE.is("no byte", Bytes.come(g, 1, part(1, 0, true, 5)), 17);
        DUE.is("beyond 1980", Bytes.come(g, 1, part(247, 5, false, 5)), 17);
        DUE.is("heaps", g.ended(20), 4);
        for (int number = 1; number <= 4; number++) {
            DUE.is("heap " + number + " is there", isKept(g, number), true);
        }
    }

    /** 4 at most; when there are 4, the one begun first goes before. */
    private static void fourHeaps() {
        for (int n = 1; n <= 7; n++) {
            for (int asked = 1; asked <= n; asked++) {
                Gate g = gate();
                for (int number = 1; number <= n; number++) {
                    DUE.is("a part", Bytes.come(g, 1, part(100, 8, true, number)), 7);
                    DUE.is("heaps", g.ended(20), Math.min(number, 4));
                }
                DUE.is("heap " + asked + " of " + n, isKept(g, asked), asked > n - 4);
            }
        }
    }

    /** .. begun first, not the one that had a part first or last; one that went and came again is begun anew. */
    private static void begunFirst() {
        Gate g = gate();
        for (int number = 1; number <= 4; number++) {
            Bytes.come(g, 1, part(100, 8, true, number));
        }
        DUE.is("one more of the first", Bytes.come(g, 1, part(102, 8, true, 1)), 7);
        DUE.is("heaps", g.ended(20), 4);
        DUE.is("a fifth", Bytes.come(g, 1, part(100, 8, true, 5)), 7);
        DUE.is("the second is there and goes", isKept(g, 2), true);
        DUE.is("the second begins anew", isKept(g, 2), false);
        DUE.is("a sixth: the third goes", Bytes.come(g, 1, part(100, 8, true, 6)), 7);
        DUE.is("the first is gone, the fourth goes for it", isKept(g, 1), false);
        DUE.is("the fifth is there", isKept(g, 5), true);
        DUE.is("the second is there", isKept(g, 2), true);
        DUE.is("the sixth is there", isKept(g, 6), true);
        DUE.is("the first is there", isKept(g, 1), true);
        DUE.is("no heap", g.ended(20), 0);
        // The part that makes a whole one makes none go.
        Gate full = gate();
        int[] p = around(Bytes.packet(9, 8, 1, 9, new int[8]), 1);
        int n = p.length - 20;
        Bytes.come(full, 1, Bytes.part(p, 0, 8, true));
        for (int number = 1; number <= 3; number++) {
            Bytes.come(full, 1, part(100, 8, true, number));
        }
        DUE.is("whole", Bytes.come(full, 1, Bytes.part(p, 8, n - 8, false)), 0);
        DUE.is("heaps", full.ended(20), 3);
    }

    /** The greatest whole packet has 1980 bytes of content. */
    private static void wholeOf1980() {
        int[] inner = Bytes.packet(9, 8, 17, 9, Bytes.content(1942, 5));
        int[] p = around(inner, 1);
        DUE.is("its content", p.length - 20, 1980);
        int[][] cuts = {{0, 1480, 1980}, {0, 8, 1976, 1980}, {0, 1976, 1980}};
        for (int[] cut : cuts) {
            for (int turn = 0; turn < 2; turn++) {
                Gate g = gate();
                int last = cut.length - 2;
                for (int k = 0; k <= last; k++) {
                    int at = turn == 0 ? k : last - k;
                    int[] part = Bytes.part(p, cut[at], cut[at + 1] - cut[at], at < last);
                    DUE.is("part " + at, Bytes.come(g, 1, part), k < last ? 7 : 0);
                }
                int[] less = Bytes.oneHopLess(inner);
                DUE.is("the first", Arrays.equals(Bytes.sent(g, 0), Bytes.part(less, 0, 1480, true)), true);
                DUE.is("the second", Arrays.equals(Bytes.sent(g, 1), Bytes.part(less, 1480, 462, false)), true);
                DUE.is("no heap", g.ended(20), 0);
            }
        }
    }

    /** When all bytes up to the end that a last one told are there, the WHOLE packet comes: of each size of the last. */
    private static void wholesOfEachSize() {
        for (int n = 0; n <= 12; n++) {
            int[] inner = Bytes.packet(9, 8, 17, 9, Bytes.content(n, 5));
            int[] p = around(inner, 1 + n);
            int size = p.length - 20;
            for (int cut = 8; cut <= size; cut += 8) {
                Gate rising = gate();
                DUE.is("the first", Bytes.come(rising, 1, Bytes.part(p, 0, cut, true)), 7);
                DUE.is("the last, from " + cut, Bytes.come(rising, 1, Bytes.part(p, cut, size - cut, false)), 0);
                DUE.is("the packet", Arrays.equals(Bytes.sent(rising, 0), Bytes.oneHopLess(inner)), true);
                Gate falling = gate();
                DUE.is("the last, from " + cut, Bytes.come(falling, 1, Bytes.part(p, cut, size - cut, false)), 7);
                DUE.is("the first", Bytes.come(falling, 1, Bytes.part(p, 0, cut, true)), 0);
                DUE.is("the packet", Arrays.equals(Bytes.sent(falling, 0), Bytes.oneHopLess(inner)), true);
                DUE.is("the last again begins anew", Bytes.come(falling, 1, Bytes.part(p, cut, size - cut, false)), 7);
            }
        }
    }

    /** In parts of 8 bytes each, the middle one last. */
    private static void manyParts() {
        int[] inner = Bytes.packet(9, 8, 17, 9, Bytes.content(90, 5));
        int[] p = around(inner, 1);
        int size = p.length - 20;
        Gate g = gate();
        int middle = size / 16 * 8;
        for (int at = 0; at < size; at += 8) {
            if (at != middle) {
                DUE.is("part at " + at, Bytes.come(g, 1, Bytes.part(p, at, Math.min(8, size - at), at + 8 < size)), 7);
            }
        }
        DUE.is("the middle one", Bytes.come(g, 1, Bytes.part(p, middle, 8, true)), 0);
        DUE.is("the packet", Arrays.equals(Bytes.sent(g, 0), Bytes.oneHopLess(inner)), true);
        DUE.is("ended(7)", g.ended(7), (size + 7) / 8 - 1);
    }

    /** The WHOLE packet counts in the place of its part: 8 to 16 are looked at. */
    private static void wholesThatDoNotFit() {
        for (int n = 8; n <= 26; n++) {
            Gate g = gate();
            keep(g, 0, 8, true);
            boolean fits = n >= 20 && n % 4 == 0;
            DUE.is("a whole of " + n, keep(g, 1, n - 8, false), fits ? 9 : 8);
            DUE.is("no heap", g.ended(20), 0);
            if (fits) {
                DUE.is("the NAME in the log", g.log(0, 3), 0x00010203);
                DUE.is("from whom", g.log(0, 1), PEER);
                DUE.is("to whom", g.log(0, 2), OWN);
            }
        }
        int[] p = around(Bytes.packet(9, 8, 1, 9, new int[8]), 1);
        for (int turn = 0; turn < 2; turn++) {
            Gate g = gate();
            g.count(0, turn == 0 ? 1 : 100);
            Bytes.come(g, 1, Bytes.part(p, 0, 8, true));
            DUE.is("SEEN or OLD", Bytes.come(g, 1, Bytes.part(p, 8, p.length - 28, false)), turn == 0 ? 11 : 10);
        }
        Gate changed = gate();
        Bytes.come(changed, 1, Bytes.part(p, 0, 8, true));
        int[] last = Bytes.part(p, 8, p.length - 28, false);
        last[last.length - 1] ^= 1;
        DUE.is("another STAMP", Bytes.come(changed, 1, last), 12);
    }

    // ---- ticks

    /** A heap of which the eighth TICK is heard since it was begun goes. */
    private static void eighthTick() {
        for (int before = 0; before <= 9; before++) {
            Gate g = gate();
            for (int n = 0; n < before; n++) {
                DUE.is("a tick before", g.tick(), 0);
            }
            keep(g, 1, 8, true);
            for (int n = 1; n <= 7; n++) {
                DUE.is("tick " + n, g.tick(), 0);
                DUE.is("a heap", g.ended(20), 1);
                // A part more does not begin it anew.
                DUE.is("a part more", keep(g, 2 + n, 8, true), 7);
            }
            DUE.is("the eighth", g.tick(), 1);
            DUE.is("no heap", g.ended(20), 0);
            DUE.is("the ninth", g.tick(), 0);
            DUE.is("a part begins anew", keep(g, 1, 8, true), 7);
        }
        Gate g = gate();
        int[] p = around(Bytes.packet(9, 8, 1, 9, new int[8]), 1);
        Bytes.come(g, 1, Bytes.part(p, 0, 8, true));
        for (int n = 1; n <= 7; n++) {
            g.tick();
        }
        DUE.is("whole behind the seventh", Bytes.come(g, 1, Bytes.part(p, 8, p.length - 28, false)), 0);
        DUE.is("nothing goes", g.tick(), 0);
    }

    /** How many heaps went. */
    private static void ticksOfSeveral() {
        for (int n = 1; n <= 4; n++) {
            Gate g = gate();
            for (int number = 1; number <= n; number++) {
                Bytes.come(g, 1, part(1, 8, true, number));
            }
            for (int k = 1; k <= 7; k++) {
                DUE.is("tick " + k, g.tick(), 0);
            }
            DUE.is("all at once", g.tick(), n);
            DUE.is("no heap", g.ended(20), 0);
        }
        Gate g = gate();
        for (int number = 1; number <= 4; number++) {
            Bytes.come(g, 1, part(100, 8, true, number));
            DUE.is("tick", g.tick(), 0);
        }
        for (int k = 5; k <= 7; k++) {
            DUE.is("tick " + k, g.tick(), 0);
        }
        for (int number = 1; number <= 4; number++) {
            DUE.is("one by one", g.tick(), 1);
            DUE.is("heaps", g.ended(20), 4 - number);
        }
        // One that came in the place of another has its own ticks.
        Gate turn = gate();
        for (int number = 1; number <= 4; number++) {
            Bytes.come(turn, 1, part(100, 8, true, number));
        }
        for (int k = 1; k <= 7; k++) {
            turn.tick();
        }
        Bytes.come(turn, 1, part(100, 8, true, 5));
        DUE.is("three go", turn.tick(), 3);
        DUE.is("the fifth is there", isKept(turn, 5), true);
    }

    /** clear: no heap is left, and one begun behind it has nothing of them. */
    private static void heapsBehindClear() {
        Gate g = gate();
        for (int number = 1; number <= 4; number++) {
            Bytes.come(g, 1, part(100, 8, true, number));
        }
        g.tick();
        g.clear();
        DUE.is("no heap", g.ended(20), 0);
        DUE.is("anew", Bytes.come(g, 1, part(100, 8, true, 1)), 7);
        DUE.is("a heap", g.ended(20), 1);
        for (int k = 1; k <= 7; k++) {
            DUE.is("tick " + k, g.tick(), 0);
        }
        DUE.is("tick 8", g.tick(), 1);
    }
}
