import java.util.Arrays;

/** Promises 15, 23, 25: heaps of parts, and ticks. */
public final class PartsTest {
    private static final Due DUE = new Due("PartsTest");
    private static final int OWN = 0x01020304;
    private static final int PEER = 0x05060708;

    public static void main(String[] args) {
        wholes();
        shapes();
        wrongOnes();
        wrongOnesOfSmallEnds();
        heaps();
        ticks();
        loop();
        DUE.finish();
    }

    private static Gate gate() {
        Gate g = new Gate(OWN);
        g.route(0, 0, 0);
        g.peer(0, PEER);
        g.policy(1, 0, 0, 0, 0, 0);
        g.seal(1, 0, 300, 1, 2, false, 1000);
        return g;
    }

    private static int[] inner(int n) {
        return Bytes.packet(9, 8, 17, 9, Bytes.content(n, 5));
    }

    private static int[] sealed(long number, int n, int packetNumber) {
        int[] content = Bytes.sealedContent(Bytes.text(inner(n)), 300, 1, 2, false, number);
        return Bytes.with(Bytes.packet(PEER, OWN, 50, 3, content), 0, packetNumber, 0);
    }

    private static int[] part(int offset, int n, boolean more, int number) {
        int[] p = Bytes.packet(PEER, OWN, 50, 3, new int[n]);
        return Bytes.with(p, 0, number, (more ? Bytes.MORE : 0) | offset);
    }

    private static void wholes() {
        Gate g = gate();
        int[][] orders = {{0, 1, 2}, {0, 2, 1}, {1, 0, 2}, {1, 2, 0}, {2, 0, 1}, {2, 1, 0}};
        for (int k = 0; k < orders.length; k++) {
            int[] whole = sealed(k + 1, 62, 0xFFFF - k);
            int n = whole.length - 20;
            int[][] parts = {Bytes.part(whole, 0, 8, true), Bytes.part(whole, 8, 64, true),
                Bytes.part(whole, 72, n - 72, false)};
            DUE.is("the first that comes", Bytes.come(g, 1, parts[orders[k][0]]), 7);
            DUE.is("a heap", g.ended(20), 1);
            DUE.is("the second", Bytes.come(g, 1, parts[orders[k][1]]), 7);
            DUE.is("the third", Bytes.come(g, 1, parts[orders[k][2]]), 0);
            DUE.is("no heap", g.ended(20), 0);
            DUE.is("the packet", Arrays.equals(Bytes.sent(g, 0), Bytes.oneHopLess(inner(62))), true);
        }
        int[] whole = sealed(50, 58, 7);
        int n = whole.length - 20;
        DUE.is("a content of a multiple of 8", n % 8, 0);
        DUE.is("all of it, with MORE", Bytes.come(g, 1, Bytes.part(whole, 0, n, true)), 7);
        DUE.is("a last one of no bytes", Bytes.come(g, 1, Bytes.part(whole, n, 0, false)), 0);
        whole = sealed(51, 58, 7);
        DUE.is("a last one of no bytes first", Bytes.come(g, 1, Bytes.part(whole, n, 0, false)), 7);
        DUE.is("bytes behind LENGTH do not count",
            Bytes.come(g, 1, Bytes.join(Bytes.part(whole, 0, n, true), new int[8])), 0);
        DUE.is("ended(7)", g.ended(7), 14);
        DUE.is("ended(0)", g.ended(0), 8);
        int[] foreign = Bytes.mend(Bytes.putWord(sealed(60, 58, 7), 12, 99));
        DUE.is("parts of a foreign one are kept", Bytes.come(g, 1, Bytes.part(foreign, 0, 8, true)), 7);
        DUE.is("and end with 9", Bytes.come(g, 1, Bytes.part(foreign, 8, n - 8, false)), 9);
        DUE.is("log from", g.log(0, 1), 99);
        DUE.is("log to", g.log(0, 2), OWN);
        DUE.is("log name", g.log(0, 3), 300);
        DUE.is("log number", g.log(0, 4), 60);
        DUE.is("a whole one of the wrong size", Bytes.come(g, 1, part(0, 16, true, 1)), 7);
        DUE.is("8", Bytes.come(g, 1, part(2, 1, false, 1)), 8);
    }

    private static int fresh(int[] part) {
        return Bytes.come(gate(), 1, part);
    }

    private static void shapes() {
        DUE.is("MORE and no byte", fresh(part(0, 0, true, 1)), 17);
        DUE.is("MORE and no byte, OFFSET", fresh(part(3, 0, true, 1)), 17);
        for (int n = 1; n < 17; n++) {
            DUE.is("MORE and " + n + " bytes", fresh(part(0, n, true, 1)), n % 8 == 0 ? 7 : 17);
            DUE.is("a last one of " + n, fresh(part(1, n, false, 1)), 7);
        }
        DUE.is("a last one of no bytes", fresh(part(247, 0, false, 1)), 7);
        DUE.is("up to 1980", fresh(part(247, 4, false, 1)), 7);
        DUE.is("up to 1981", fresh(part(247, 5, false, 1)), 17);
        DUE.is("up to 1984, no byte", fresh(part(248, 0, false, 1)), 17);
        DUE.is("up to 1976, MORE", fresh(part(246, 8, true, 1)), 7);
        DUE.is("up to 1984, MORE", fresh(part(247, 8, true, 1)), 17);
        DUE.is("OFFSET 8191", fresh(part(8191, 8, true, 1)), 17);
        DUE.is("BROKEN is before", fresh(Arrays.copyOf(part(0, 9, true, 1), 28)), 1);
        Gate g = gate();
        DUE.is("WRONG without a heap", Bytes.come(g, 1, part(0, 1, true, 1)), 17);
        DUE.is("no heap", g.ended(20), 0);
        DUE.is("ended(17)", g.ended(17), 1);
    }

    /** Parts, each an OFFSET, a size and MORE (1): all are kept but the last one, which is wrong. */
    private static void wrongBehind(String why, int[][] parts, int reason) {
        Gate g = gate();
        Bytes.come(g, 1, part(3, 8, true, 2));
        for (int k = 0; k < parts.length; k++) {
            int[] p = parts[k];
            int want = k == parts.length - 1 ? reason : 7;
            DUE.is(why + ", part " + k, Bytes.come(g, 1, part(p[0], p[1], p[2] == 1, 1)), want);
        }
        DUE.is(why + ": heaps", g.ended(20), reason == 7 ? 2 : 1);
    }

    private static void wrongOnes() {
        wrongBehind("the same again", new int[][] {{0, 8, 1}, {0, 8, 1}}, 17);
        wrongBehind("a byte is there", new int[][] {{1, 16, 1}, {0, 16, 1}}, 17);
        wrongBehind("a byte is there", new int[][] {{1, 16, 1}, {2, 16, 1}}, 17);
        wrongBehind("no byte is there", new int[][] {{1, 16, 1}, {3, 16, 1}}, 7);
        wrongBehind("all around it", new int[][] {{2, 8, 1}, {0, 80, 1}}, 17);
        wrongBehind("a second last one", new int[][] {{5, 8, 0}, {3, 8, 0}}, 17);
        wrongBehind("a second last one", new int[][] {{5, 0, 0}, {5, 0, 0}}, 17);
        wrongBehind("bytes behind a last one", new int[][] {{5, 8, 1}, {3, 8, 0}}, 17);
        wrongBehind("bytes just behind a last one", new int[][] {{5, 8, 1}, {4, 8, 0}}, 17);
        wrongBehind("a last one of no bytes before others", new int[][] {{5, 8, 1}, {5, 0, 0}}, 17);
        wrongBehind("a last one of no bytes behind others", new int[][] {{5, 8, 1}, {6, 0, 0}}, 7);
        wrongBehind("behind the end", new int[][] {{5, 8, 0}, {6, 8, 1}}, 17);
        wrongBehind("behind the end", new int[][] {{5, 0, 0}, {5, 8, 1}}, 17);
        wrongBehind("up to the end", new int[][] {{5, 0, 0}, {4, 8, 1}}, 7);
        wrongBehind("no byte and MORE", new int[][] {{5, 8, 1}, {0, 0, 1}}, 17);
        wrongBehind("beyond 1980", new int[][] {{5, 8, 1}, {247, 5, 0}}, 17);
    }

    private static void wrongOnesOfSmallEnds() {
        wrongBehind("a last one of 3 bytes, then its own place", new int[][] {{5, 3, 0}, {5, 8, 1}}, 17);
        wrongBehind("a last one into another", new int[][] {{5, 8, 1}, {5, 3, 0}}, 17);
        wrongBehind("then one in front", new int[][] {{5, 3, 0}, {4, 8, 1}}, 7);
        wrongBehind("then one over both", new int[][] {{5, 3, 0}, {4, 16, 1}}, 17);
    }

    private static void heaps() {
        Gate g = gate();
        for (int n = 1; n <= 4; n++) {
            DUE.is("heap " + n, Bytes.come(g, 1, part(1, 8, true, n)), 7);
            DUE.is("heaps", g.ended(20), n);
        }
        DUE.is("another part of the first", Bytes.come(g, 1, part(2, 8, true, 1)), 7);
        DUE.is("heaps", g.ended(20), 4);
        DUE.is("a fifth", Bytes.come(g, 1, part(1, 8, true, 5)), 7);
        DUE.is("heaps", g.ended(20), 4);
        DUE.is("the second is still there", Bytes.come(g, 1, part(1, 8, true, 2)), 17);
        DUE.is("heaps", g.ended(20), 3);
        DUE.is("the first is gone: it begins anew", Bytes.come(g, 1, part(1, 8, true, 1)), 7);
        DUE.is("heaps", g.ended(20), 4);
        DUE.is("a sixth: the third goes", Bytes.come(g, 1, part(1, 8, true, 6)), 7);
        DUE.is("the fourth is still there", Bytes.come(g, 1, part(1, 8, true, 4)), 17);
        DUE.is("the third is gone", Bytes.come(g, 1, part(1, 8, true, 3)), 7);
        DUE.is("heaps: 5, 1, 6, 3", g.ended(20), 4);
        int[] other = Bytes.mend(Bytes.putWord(part(1, 8, true, 5), 12, 1));
        DUE.is("from another: 5 goes", Bytes.come(g, 1, other), 7);
        DUE.is("5 is gone, 1 goes", Bytes.come(g, 1, part(1, 8, true, 5)), 7);
        DUE.is("6 is there", Bytes.come(g, 1, part(1, 8, true, 6)), 17);
        DUE.is("a wrong part of a full set makes none go", g.ended(20), 3);
        DUE.is("the one from another is there", Bytes.come(g, 1, other), 17);
        // A heap that is used again has nothing of what was in it.
        int[] whole = sealed(1, 60, 9);
        DUE.is("anew", Bytes.come(g, 1, Bytes.part(whole, 8, whole.length - 28, false)), 7);
        DUE.is("anew, whole", Bytes.come(g, 1, Bytes.part(whole, 0, 8, true)), 0);
    }

    private static void ticks() {
        Gate g = gate();
        Bytes.come(g, 1, part(1, 8, true, 1));
        DUE.is("tick 1", g.tick(), 0);
        Bytes.come(g, 1, part(1, 8, true, 2));
        Bytes.come(g, 1, part(1, 8, true, 3));
        Bytes.come(g, 1, part(2, 8, true, 1));
        for (int n = 2; n <= 7; n++) {
            DUE.is("tick " + n, g.tick(), 0);
        }
        DUE.is("heaps", g.ended(20), 3);
        DUE.is("tick 8", g.tick(), 1);
        DUE.is("heaps", g.ended(20), 2);
        DUE.is("1 is gone", Bytes.come(g, 1, part(1, 8, true, 1)), 7);
        DUE.is("tick 9", g.tick(), 2);
        DUE.is("heaps", g.ended(20), 1);
        for (int n = 2; n <= 7; n++) {
            DUE.is("tick of 1 anew", g.tick(), 0);
        }
        DUE.is("tick of 1 anew", g.tick(), 1);
        DUE.is("tick", g.tick(), 0);
        DUE.is("no reason is counted for that", g.ended(17), 0);
    }

    private static void loop() {
        Gate g = new Gate(OWN);
        g.route(0, 0, 1);
        g.route(0x0A000000, 8, 0);
        g.peer(3, OWN);
        g.policy(0, 0, 0, 0, 0, 3);
        g.policy(1, 0, 0, 0, 0, 3);
        g.seal(0, 3, 300, 11, 12, true, 9);
        g.seal(1, 3, 300, 11, 12, true, 9);
        g.route(0x0A000001, 32, 1);
        g.make(1, 0x0A000001, 6, 9, 1480, 1);
        int[] p = Bytes.tape(g, 1500);
        DUE.is("out", g.come(0), 0);
        int[] first = Bytes.sent(g, 0);
        int[] second = Bytes.sent(g, 1);
        DUE.is("in two", second.length, 20 + 1500 + 2 + 2 + 16 - 1480);
        g.route(0x0A000001, 32, 0);
        DUE.is("in, the second", Bytes.come(g, 1, second), 7);
        DUE.is("in, the first", Bytes.come(g, 1, first), 0);
        DUE.is("as it was", Arrays.equals(Bytes.sent(g, 0), Bytes.oneHopLess(Bytes.oneHopLess(p))), true);
    }
}
