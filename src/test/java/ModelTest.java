import java.util.Arrays;
import java.util.Random;

/** Random runs of calls, the same on the program and on the model; the seeds are fixed. */
public final class ModelTest {
    private static final int RUNS = 10000;
    /** So many calls are left of an object's 512 to look at what became of it. */
    private static final int LOOKS = 112;
    private static final int[] EDGES = {-1, -2, -3, 0, 1, 2, 3, 4, 16, 17, 20, 21, 24, 32, 33, 255, 256, 1480, 1481, 65535,
        65536, 1000000, 1000001, Integer.MAX_VALUE, Integer.MIN_VALUE};
    private static final int[] ADDRESSES = {0, 1, -1, 0x01020304, 0x05060708, 0x0A000001, 0x0A010001, 0x0B000001,
        0x0B010001, 0x80000000};
    private static final int[] NAMES = {256, 300, 301, 302, Integer.MAX_VALUE, 255, 0, -1};
    private static final Due DUE = new Due("ModelTest");

    private final Random random;
    private final int seed;
    private final int own;
    private final Gate gate;
    private final Model model;
    /** What the run knows of the seals that it made: way, tunnel, name, LONG; keys. */
    private final int[][] seals = new int[16][];
    private final long[][] keys = new long[16][];
    private int made;
    private int[] lastSealed = new int[0];
    private boolean isLooking;
    private final int[] reasons;

    private ModelTest(int seed, int[] reasons) {
        this.seed = seed;
        this.reasons = reasons;
        random = new Random(seed * 7919L);
        own = pick(ADDRESSES);
        gate = new Gate(own);
        model = new Model(own);
    }

    public static void main(String[] args) {
        int[] reasons = new int[18];
        for (int seed = 1; seed <= RUNS; seed++) {
            new ModelTest(seed, reasons).run();
        }
        for (int k = 0; k < reasons.length; k++) {
            DUE.is("packets ended with " + k, reasons[k] > 100, true);
        }
        System.out.println("ModelTest: reasons " + Arrays.toString(reasons));
        DUE.finish();
    }

    private interface Call {
        long on(Gate g);
    }

    private interface ModelCall {
        long on(Model m);
    }

    private static final long THROWN = Long.MIN_VALUE + 12345;

    /** The run has made as many calls as it may. */
    private static final class Over extends Error {
        private static final long serialVersionUID = 1;
    }

    private static String name(RuntimeException e) {
        return e.getClass().getName();
    }

    private long both(String call, Call c, ModelCall m) {
        if (!isLooking && gate.left() <= LOOKS) {
            throw new Over();
        }
        long got = THROWN;
        long want = THROWN;
        String thrown = "";
        String due = "";
        try {
            got = c.on(gate);
        } catch (RuntimeException e) {
            thrown = name(e);
        }
        try {
            want = m.on(model);
        } catch (RuntimeException e) {
            due = name(e);
        }
        if (!thrown.equals(due)) {
            DUE.tell("seed " + seed + ", " + call + " threw '" + thrown + "', due is '" + due + "'");
        }
        DUE.is("seed " + seed + ", " + call, got, want);
        return want;
    }

    private int pick(int[] of) {
        return of[random.nextInt(of.length)];
    }

    private int some(int low, int high) {
        return random.nextInt(30) == 0 ? pick(EDGES) : low + random.nextInt(high - low + 1);
    }

    private boolean chance(int oneOf) {
        return random.nextInt(oneOf) == 0;
    }

    private int width() {
        return chance(3) ? some(0, 32) : pick(new int[] {0, 1, 8, 16, 32});
    }

    private void run() {
        int steps = 5 + random.nextInt(100);
        try {
            if (!chance(8)) {
                setUp();
            }
            for (int k = 0; k < steps; k++) {
                step();
            }
        } catch (Over e) {
            // What became of it by then is looked at all the same.
        }
        isLooking = true;
        look();
    }

    private void setUp() {
        route(0, 0, random.nextInt(2));
        route(0x0A000000, 8, 0);
        route(0x0B000000, 8, 1);
        for (int t = 0; t < 4; t++) {
            peer(t, chance(2) ? own : pick(ADDRESSES));
        }
        for (int k = random.nextInt(4); k > 0; k--) {
            policy();
        }
        policy(0, 0, 0, 0, 0, random.nextInt(3) - 1);
        policy(1, 0, 0, 0, 0, random.nextInt(3) - 1);
        seal(0, random.nextInt(2), NAMES[random.nextInt(2)]);
        seal(1, random.nextInt(2), NAMES[2 + random.nextInt(2)]);
        for (int k = random.nextInt(3); k > 0; k--) {
            seal();
        }
    }

    private void step() {
        switch (random.nextInt(22)) {
            case 0 -> single();
            case 1 -> route(pick(ADDRESSES), width(), some(0, 1));
            case 2 -> peer(some(0, 3), pick(ADDRESSES));
            case 3 -> policy();
            case 4 -> seal();
            case 5 -> count();
            case 6, 7, 8 -> plain();
            case 9, 10, 11, 12, 13 -> sealedByTest();
            case 14, 15 -> loop();
            case 16, 17, 18 -> parts();
            case 19 -> both("tick", g -> g.tick(), m -> m.tick());
            case 20 -> ask();
            default -> again();
        }
        if (chance(200)) {
            both("clear", g -> {
                g.clear();
                return 0;
            }, m -> {
                m.clear();
                return 0;
            });
            made = 0;
            setUp();
        }
    }

    private void route(int address, int width, int port) {
        both("route", g -> g.route(address, width, port), m -> m.route(address, width, port));
    }

    private void peer(int tunnel, int address) {
        both("peer", g -> g.peer(tunnel, address), m -> m.peer(tunnel, address));
    }

    private void policy() {
        if (chance(2)) {
            int kind = chance(3) ? some(0, 255) : pick(new int[] {0, 6, 17, 50});
            int low = chance(3) ? some(0, 65535) : 0;
            int high = chance(3) ? some(0, 65535) : 65535;
            both("meant", g -> {
                g.meant(kind, low, high);
                return 0;
            }, m -> {
                m.meant(kind, low, high);
                return 0;
            });
        }
        policy(some(0, 1), pick(ADDRESSES), width(), pick(ADDRESSES), width(), some(-2, 3));
    }

    private void policy(int way, int from, int fromWidth, int to, int toWidth, int done) {
        both("policy", g -> g.policy(way, from, fromWidth, to, toWidth, done),
            m -> m.policy(way, from, fromWidth, to, toWidth, done));
    }

    private void seal() {
        seal(some(0, 1), chance(3) ? some(0, 3) : some(0, 1), pick(NAMES));
    }

    private void seal(int way, int tunnel, int name) {
        long key = chance(2) ? 5 : random.nextLong();
        long stampKey = chance(2) ? 6 : random.nextLong();
        boolean isLong = random.nextBoolean();
        int life = chance(4) ? some(1, 3) : 1000;
        long number = both("seal", g -> g.seal(way, tunnel, name, key, stampKey, isLong, life),
            m -> m.seal(way, tunnel, name, key, stampKey, isLong, life));
        if (number != THROWN) {
            made = (int) number + 1;
            seals[made - 1] = new int[] {way, tunnel, name, isLong ? 1 : 0};
            keys[made - 1] = new long[] {key, stampKey};
        }
    }

    private long number() {
        long[] of = {0, 1, 62, 63, 64, 65, 4294967295L, 4294967296L, 4294967357L, 4294967358L, 4294967359L,
            Long.MAX_VALUE, Long.MAX_VALUE - 1, -1, 1000, 4294967294L};
        return of[random.nextInt(of.length)];
    }

    private void count() {
        int seal = some(0, Math.max(made, 1));
        long number = number();
        both("count", g -> g.count(seal, number), m -> m.count(seal, number));
        if (chance(8)) {
            both("stop", g -> g.stop(seal) ? 1 : 0, m -> m.stop(seal) ? 1 : 0);
        }
    }

    private int flags() {
        int f = chance(3) ? Bytes.DONT : 0;
        f |= chance(6) ? 0x8000 : 0;
        f |= chance(8) ? Bytes.MORE : 0;
        return chance(8) ? f | random.nextInt(8192) : f;
    }

    private int[] somePacket() {
        int n = chance(8) ? 1400 + random.nextInt(581) : random.nextInt(40);
        int kind = pick(new int[] {0, 1, 6, 17, 50});
        int hops = chance(6) ? random.nextInt(3) : 1 + random.nextInt(255);
        int[] p = Bytes.packet(pick(ADDRESSES), pick(ADDRESSES), kind, hops, Bytes.content(n, random.nextInt(300)));
        return Bytes.with(p, random.nextInt(256), random.nextInt(3), flags());
    }

    private int[] damaged(int[] p) {
        int[] b = p.clone();
        if (b.length == 0) {
            return b;
        }
        switch (random.nextInt(4)) {
            case 0 -> b[random.nextInt(b.length)] ^= 1 << random.nextInt(8);
            case 1 -> b = Arrays.copyOf(b, random.nextInt(b.length));
            case 2 -> b = Arrays.copyOf(b, Math.min(2000, b.length + random.nextInt(20)));
            default -> {
                if (b.length >= 20) {
                    b[random.nextInt(20)] ^= 1 << random.nextInt(8);
                    Bytes.mend(b);
                }
            }
        }
        return b;
    }

    private void type(int[] bytes) {
        int[] b = Arrays.copyOf(bytes, Math.min(bytes.length, 2000));
        keep(0);
        int[] padded = Arrays.copyOf(b, (b.length + 7) / 8 * 8);
        for (int k = 0; k < padded.length; k += 8) {
            long eight = Bytes.eight(padded, k);
            both("type", g -> g.type(eight), m -> m.type(eight));
        }
        keep(b.length);
    }

    private void keep(int n) {
        both("keep", g -> {
            g.keep(n);
            return 0;
        }, m -> {
            m.keep(n);
            return 0;
        });
    }

    private void come(int port) {
        long reason = both("come", g -> g.come(port), m -> m.come(port));
        if (reason >= 0) {
            reasons[(int) reason]++;
        }
    }

    private void plain() {
        if (chance(4)) {
            int[] a = {pick(ADDRESSES), pick(ADDRESSES), some(0, 255), some(0, 255), some(0, 1480), some(0, 1000)};
            both("make", g -> g.make(a[0], a[1], a[2], a[3], a[4], a[5]), m -> m.make(a[0], a[1], a[2], a[3], a[4], a[5]));
        } else {
            int[] p = somePacket();
            type(chance(6) ? damaged(p) : p);
        }
        int way = some(0, 1);
        both("meaning", g -> g.meaning(way), m -> m.meaning(way));
        come(some(0, 1));
    }

    private int[] text() {
        int[] inner = chance(8) ? damaged(somePacket()) : somePacket();
        int[] text = Bytes.text(Arrays.copyOf(inner, Math.min(inner.length, 1940)));
        switch (random.nextInt(10)) {
            case 0 -> text[text.length - 1] = pick(new int[] {59, 5, 0});
            case 1 -> text[text.length - 2] = random.nextInt(256);
            case 2 -> {
                int fill = 1 + random.nextInt(250);
                text = Bytes.join(Bytes.packet(1, 2, 3, 4, new int[fill % 4]), Bytes.content(fill, 1), new int[] {fill, 4});
                text = Arrays.copyOf(text, text.length / 4 * 4);
            }
            default -> {
            }
        }
        return text;
    }

    /** A sealed packet for a seal of the way in, with a number about its TOP. */
    private int[] sealed() {
        int s = made == 0 ? -1 : random.nextInt(made);
        for (int k = 0; k < made && seals[s][0] != 1; k++) {
            s = (s + 1) % made;
        }
        int[] seal = s < 0 ? new int[] {1, 0, 300, 0} : seals[s];
        long[] key = s < 0 ? new long[] {5, 6} : keys[s];
        long top = s < 0 ? 0 : model.top(s);
        long number = chance(6) ? number() : top + random.nextInt(90) - 70 + (chance(2) ? 70 : 0);
        if (chance(12)) {
            number += 1L << 32;
        }
        int[] content = Bytes.sealedContent(text(), seal[2], key[0], key[1], seal[3] == 1, number);
        int peer = model.peer(seal[1], 0);
        model.peer(seal[1], peer);
        int[] p = Bytes.packet(chance(25) ? pick(ADDRESSES) : peer, own, 50, random.nextInt(256), content);
        lastSealed = Bytes.with(p, random.nextInt(256), random.nextInt(6), flags() & 0xC000);
        if (chance(12)) {
            lastSealed[20 + random.nextInt(content.length)] ^= 1;
        }
        return lastSealed;
    }

    private void sealedByTest() {
        int[] p = sealed();
        if (p.length > 2000) {
            return;
        }
        type(chance(15) ? damaged(p) : p);
        come(chance(10) ? 0 : 1);
    }

    private void again() {
        if (lastSealed.length == 0 || chance(3)) {
            come(some(0, 1));
        } else {
            type(lastSealed);
            come(1);
        }
    }

    private void loop() {
        int packet = some(0, 1);
        long n = both("take", g -> g.take(packet), m -> m.take(packet));
        if (n != THROWN && chance(5)) {
            int k = random.nextInt((int) n);
            int b = some(0, 255);
            both("poke", g -> g.poke(k, b), m -> m.poke(k, b));
        }
        come(1);
        if (chance(2)) {
            both("take", g -> g.take(1 - packet), m -> m.take(1 - packet));
            come(1);
        }
    }

    private void parts() {
        int[] p = sealed();
        int n = p.length - 20;
        int cuts = 1 + random.nextInt(3);
        int[] at = new int[cuts + 1];
        for (int k = 0; k < cuts; k++) {
            at[k] = random.nextInt(n / 8 + 1) * 8;
        }
        at[cuts] = n;
        Arrays.sort(at);
        int[][] rows = new int[cuts + 1][];
        int start = 0;
        for (int k = 0; k <= cuts; k++) {
            rows[k] = Bytes.part(p, start, at[k] - start, k < cuts);
            start = at[k];
        }
        int turns = rows.length + (chance(4) ? 1 : 0);
        int first = random.nextInt(rows.length);
        for (int k = 0; k < turns; k++) {
            int[] row = rows[(first + k) % rows.length];
            if (chance(10)) {
                row = Bytes.with(row, row[1], random.nextInt(6), Bytes.pair(row, 6) ^ 1 << random.nextInt(14));
            }
            if (chance(12)) {
                continue;
            }
            type(chance(20) ? damaged(row) : row);
            come(1);
        }
        both("ended", g -> g.ended(20), m -> m.ended(20));
    }

    private void single() {
        int a = pick(EDGES);
        int b = pick(EDGES);
        switch (random.nextInt(10)) {
            case 0 -> both("at", g -> g.at(a), m -> m.at(a));
            case 1 -> both("poke", g -> g.poke(a, b), m -> m.poke(a, b));
            case 2 -> both("sum", g -> g.sum(), m -> m.sum());
            case 3 -> keep(a);
            case 4 -> both("sent", g -> g.sent(a, b), m -> m.sent(a, b));
            case 5 -> both("take", g -> g.take(a), m -> m.take(a));
            case 6 -> both("told", g -> g.told(a, b), m -> m.told(a, b));
            case 7 -> both("come", g -> g.come(a), m -> m.come(a));
            case 8 -> both("meaning", g -> g.meaning(a), m -> m.meaning(a));
            default -> both("type", g -> g.type(a), m -> m.type(a));
        }
    }

    private void ask() {
        int a = some(-1, 17);
        int b = some(-1, 6);
        int address = chance(2) ? random.nextInt() : pick(ADDRESSES);
        both("routed", g -> g.routed(address), m -> m.routed(address));
        both("log", g -> g.log(a, b), m -> m.log(a, b));
        both("told", g -> g.told(a, b), m -> m.told(a, b));
        both("top", g -> g.top(a), m -> m.top(a));
        both("seen", g -> g.seen(a), m -> m.seen(a));
        both("sent", g -> g.sent(b, a), m -> m.sent(b, a));
        both("ended", g -> g.ended(a), m -> m.ended(a));
        both("stop", g -> g.stop(a - 14) ? 1 : 0, m -> m.stop(a - 14) ? 1 : 0);
    }

    /** All that can be seen of the state. */
    private void look() {
        for (int k = -1; k <= 21; k++) {
            int x = k;
            both("ended", g -> g.ended(x), m -> m.ended(x));
            both("top", g -> g.top(x), m -> m.top(x));
            both("seen", g -> g.seen(x), m -> m.seen(x));
            for (int what = -1; what <= 6; what++) {
                int w = what;
                both("told", g -> g.told(x, w), m -> m.told(x, w));
                both("log", g -> g.log(x, w), m -> m.log(x, w));
            }
        }
        for (int p = 0; p < 2; p++) {
            int packet = p;
            long n = both("sent", g -> g.sent(packet, -1), m -> m.sent(packet, -1));
            both("sent", g -> g.sent(packet, -2), m -> m.sent(packet, -2));
            for (int k = 0; k <= n; k++) {
                int at = k;
                both("sent", g -> g.sent(packet, at), m -> m.sent(packet, at));
            }
        }
    }
}
