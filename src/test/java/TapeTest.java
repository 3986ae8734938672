import java.util.Arrays;

/** Promises 1 to 7: a new object, type, keep, poke, at, make, sum. */
public final class TapeTest {
    private static final Due DUE = new Due("TapeTest");

    public static void main(String[] args) {
        newObject();
        typing();
        keeping();
        poking();
        making();
        summing();
        DUE.finish();
    }

    private static void newObject() {
        for (int own : new int[] {0, 1, -1, Integer.MIN_VALUE, Integer.MAX_VALUE}) {
            Gate g = new Gate(own);
            DUE.index("at(0) of a new one", () -> g.at(0));
            DUE.argument("keep(1) of a new one", () -> g.keep(1));
            DUE.is("routed of a new one", g.routed(own), -1);
            DUE.is("meaning(0) of a new one", g.meaning(0), -1);
            for (int k = 0; k <= 20; k++) {
                DUE.is("ended(" + k + ") of a new one", g.ended(k), 0);
            }
            for (int p = 0; p < 2; p++) {
                int packet = p;
                DUE.is("sent(.., NONE) of a new one", g.sent(p, -1), 0);
                DUE.is("sent(.., -2) of a new one", g.sent(p, -2), -1);
                DUE.index("sent(.., 0) of a new one", () -> g.sent(packet, 0));
                DUE.state("take of a new one", () -> g.take(packet));
            }
            DUE.index("log of a new one", () -> g.log(0, 0));
            DUE.index("top of a new one", () -> g.top(0));
            for (int t = 0; t < 4; t++) {
                DUE.is("peer of a new one", g.peer(t, 7), 0);
            }
            DUE.is("tick of a new one", g.tick(), 0);
            DUE.is("come(0) of a new one", g.come(0), 1);
            DUE.is("come(1) of a new one", g.come(1), 1);
        }
    }

    private static void typing() {
        Gate g = new Gate(1);
        DUE.is("type", g.type(0x0102030405060708L), 8);
        DUE.is("type", g.type(0xF1F2F3F4F5F6F7F8L), 16);
        for (int k = 0; k < 8; k++) {
            DUE.is("at(" + k + ")", g.at(k), k + 1);
            DUE.is("at(" + (8 + k) + ")", g.at(8 + k), 0xF1 + k);
        }
        g.keep(3);
        DUE.is("type behind 3", g.type(-1L), 11);
        DUE.is("at(2)", g.at(2), 3);
        DUE.is("at(3)", g.at(3), 255);
        g.keep(0);
        for (int n = 8; n <= 2000; n += 8) {
            DUE.is("type", g.type(n), n);
        }
        DUE.state("type behind 2000", () -> g.type(1));
        DUE.is("at(1999)", g.at(1999), 2000 & 255);
        DUE.index("at(2000)", () -> g.at(2000));
        g.keep(1993);
        DUE.state("type behind 1993", () -> g.type(1));
        DUE.index("at(1993): nothing was typed", () -> g.at(1993));
        g.keep(1992);
        DUE.is("type behind 1992", g.type(5), 2000);
    }

    private static void keeping() {
        Gate g = new Gate(1);
        g.type(0x0102030405060708L);
        g.keep(8);
        DUE.is("at(7)", g.at(7), 8);
        for (int n : new int[] {9, -1, Integer.MIN_VALUE, Integer.MAX_VALUE}) {
            DUE.argument("keep(" + n + ") of 8", () -> g.keep(n));
        }
        g.keep(5);
        DUE.is("at(4)", g.at(4), 5);
        DUE.index("at(5) of 5", () -> g.at(5));
        DUE.argument("keep(6) of 5", () -> g.keep(6));
        g.keep(0);
        DUE.index("at(0) of 0", () -> g.at(0));
    }

    private static void poking() {
        Gate g = new Gate(1);
        g.type(0x80000000000000FFL);
        DUE.is("poke(0, 255)", g.poke(0, 255), 128);
        DUE.is("poke(0, 0)", g.poke(0, 0), 255);
        DUE.is("poke(7, 9)", g.poke(7, 9), 255);
        DUE.is("at(7)", g.at(7), 9);
        for (int k : new int[] {-1, 8, Integer.MIN_VALUE, Integer.MAX_VALUE}) {
            DUE.index("poke(" + k + ", 256)", () -> g.poke(k, 256));
            DUE.index("poke(" + k + ", 0)", () -> g.poke(k, 0));
            DUE.index("at(" + k + ")", () -> g.at(k));
        }
        for (int b : new int[] {-1, 256, Integer.MIN_VALUE, Integer.MAX_VALUE}) {
            DUE.argument("poke(7, " + b + ")", () -> g.poke(7, b));
        }
        DUE.is("at(7) as it was", g.at(7), 9);
    }

    private static void making() {
        Gate g = new Gate(1);
        int[][] rows = {{1, 2, 0, 0, 0, 0}, {-1, 0x80000000, 255, 255, 1480, -5}, {0x0A000001, 0x0B000002, 17, 64, 300, 250},
            {0, 0, 6, 1, 4, Integer.MAX_VALUE}, {0, 0, 6, 1, 5, Integer.MIN_VALUE}};
        for (int[] r : rows) {
            DUE.is("make", g.make(r[0], r[1], r[2], r[3], r[4], r[5]), 20 + r[4]);
            int[] want = Bytes.packet(r[0], r[1], r[2], r[3], Bytes.content(r[4], r[5]));
            DUE.is("the packet of make", Arrays.equals(Bytes.tape(g, 20 + r[4]), want), true);
            DUE.index("behind it", () -> g.at(20 + r[4]));
        }
        int[] wrong = {-1, 256, Integer.MIN_VALUE, Integer.MAX_VALUE};
        for (int w : wrong) {
            DUE.argument("make kind " + w, () -> g.make(0, 0, w, 0, 0, 0));
            DUE.argument("make hops " + w, () -> g.make(0, 0, 0, w, 0, 0));
        }
        for (int n : new int[] {-1, 1481, Integer.MIN_VALUE, Integer.MAX_VALUE}) {
            DUE.argument("make n " + n, () -> g.make(0, 0, 0, 0, n, 0));
        }
        DUE.is("the tape as it was", g.at(24), 4);
        g.type(1);
        g.make(9, 9, 9, 9, 2, 77);
        DUE.is("bytes of an older tape are gone", Arrays.equals(Bytes.tape(g, 22),
            Bytes.packet(9, 9, 9, 9, new int[] {77, 78})), true);
    }

    private static void summing() {
        Gate g = new Gate(1);
        DUE.state("sum of nothing", g::sum);
        g.type(0);
        g.type(0);
        g.type(0);
        g.keep(19);
        DUE.state("sum of 19", g::sum);
        g.type(0);
        g.keep(20);
        DUE.is("sum of zeros: 0 would not do", g.sum(), 65535);
        DUE.is("again", g.sum(), 65535);
        g.poke(0, 255);
        g.poke(1, 255);
        DUE.is("sum where 0 and 65535 would do", g.sum(), 0);
        DUE.is("at(10)", g.at(10), 0);
        for (int k = 0; k < 20; k++) {
            g.poke(k, 255);
        }
        DUE.is("sum of all 255", g.sum(), 0);
        g.poke(19, 254);
        DUE.is("sum of all 255 but one", g.sum(), 1);
        DUE.is("at(11)", g.at(11), 1);
        g.poke(18, 1);
        g.poke(19, 1);
        DUE.is("sum of beyond 16 bits", g.sum(), 65535 - 0x0101);
        DUE.is("at(10)", g.at(10), 0xFE);
        for (int k = 4; k < 20; k++) {
            g.poke(k, 0);
        }
        g.poke(5, 1);
        DUE.is("sum of what goes beyond 16 bits twice", g.sum(), 65534);
        DUE.is("at(11)", g.at(11), 0xFE);
    }
}
