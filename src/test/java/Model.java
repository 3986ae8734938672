import java.math.BigInteger;
import java.util.ArrayList;
import java.util.Arrays;
import java.util.List;
import java.util.TreeMap;
import java.util.TreeSet;

/** The document once more, written for reading and not for the rules of LANGUAGE.md: what the program is held against. */
final class Model {
    private static final class Seal {
        int way;
        int tunnel;
        int name;
        long key;
        long stampKey;
        boolean isLong;
        int life;
        boolean stopped;
        long counter;
        final TreeSet<Long> seen = new TreeSet<>();

        boolean dead() {
            return stopped || life == 0;
        }

        long end() {
            return isLong ? Long.MAX_VALUE : 4294967295L;
        }
    }

    private static final class Heap {
        int from;
        int number;
        int ticks;
        int end = -1;
        int[] head;
        final TreeMap<Integer, Integer> bytes = new TreeMap<>();
    }

    private final int own;
    private int[] tape;
    private List<int[]> routes;
    private int[] peers;
    private int[] meant;
    private List<int[]> policies;
    private List<Seal> seals;
    private List<Heap> heaps;
    private List<int[]> log;
    private int[] ended;
    private int sealed;
    private int[][] sent;
    private int sentPort;

    Model(int own) {
        this.own = own;
        clear();
    }

    void clear() {
        tape = new int[0];
        routes = new ArrayList<>();
        peers = new int[4];
        meant = new int[] {0, 0, 65535};
        policies = new ArrayList<>();
        seals = new ArrayList<>();
        heaps = new ArrayList<>();
        log = new ArrayList<>();
        ended = new int[18];
        sealed = 0;
        sent = new int[2][0];
        sentPort = -1;
    }

    private static void index(boolean good) {
        if (!good) {
            throw new IndexOutOfBoundsException();
        }
    }

    private static void argument(boolean good) {
        if (!good) {
            throw new IllegalArgumentException();
        }
    }

    private static void state(boolean good) {
        if (!good) {
            throw new IllegalStateException();
        }
    }

    private static boolean within(long x, long low, long high) {
        return low <= x && x <= high;
    }

    int type(long bytes) {
        state(tape.length + 8 <= 2000);
        int[] eight = new int[8];
        for (int k = 0; k < 8; k++) {
            eight[k] = (int) (bytes >> (56 - 8 * k)) & 255;
        }
        tape = Bytes.join(tape, eight);
        return tape.length;
    }

    void keep(int n) {
        argument(within(n, 0, tape.length));
        tape = Arrays.copyOf(tape, n);
    }

    int poke(int k, int b) {
        index(within(k, 0, tape.length - 1));
        argument(within(b, 0, 255));
        int was = tape[k];
        tape[k] = b;
        return was;
    }

    int at(int k) {
        index(within(k, 0, tape.length - 1));
        return tape[k];
    }

    int make(int from, int to, int kind, int hops, int n, int number) {
        argument(within(kind, 0, 255) && within(hops, 0, 255) && within(n, 0, 1480));
        tape = Bytes.packet(from, to, kind, hops, Bytes.content(n, number));
        return tape.length;
    }

    int sum() {
        state(tape.length >= 20);
        Bytes.mend(tape);
        return Bytes.pair(tape, 10);
    }

    int route(int address, int width, int port) {
        argument(within(width, 0, 32) && within(port, 0, 1));
        state(routes.size() < 16);
        routes.add(new int[] {address, width, port});
        return routes.size();
    }

    int peer(int tunnel, int address) {
        index(within(tunnel, 0, 3));
        int was = peers[tunnel];
        peers[tunnel] = address;
        return was;
    }

    void meant(int kind, int low, int high) {
        argument(within(kind, 0, 255) && 0 <= low && low <= high && high <= 65535);
        meant = new int[] {kind, low, high};
    }

    int policy(int way, int from, int fromWidth, int to, int toWidth, int done) {
        argument(within(way, 0, 1) && within(fromWidth, 0, 32) && within(toWidth, 0, 32) && within(done, -2, 3));
        state(policies.size() < 24);
        policies.add(new int[] {way, from, fromWidth, to, toWidth, done, meant[0], meant[1], meant[2]});
        meant = new int[] {0, 0, 65535};
        return policies.size();
    }

    int seal(int way, int tunnel, int name, long key, long stampKey, boolean isLong, int life) {
        index(within(tunnel, 0, 3));
        argument(within(way, 0, 1) && name >= 256 && within(life, 1, 1000000));
        state(seals.size() < 16 && named(name) == null);
        Seal s = new Seal();
        s.way = way;
        s.tunnel = tunnel;
        s.name = name;
        s.key = key;
        s.stampKey = stampKey;
        s.isLong = isLong;
        s.life = life;
        seals.add(s);
        return seals.size() - 1;
    }

    boolean stop(int seal) {
        index(within(seal, 0, seals.size() - 1));
        boolean was = !seals.get(seal).dead();
        seals.get(seal).stopped = true;
        return was;
    }

    long count(int seal, long number) {
        index(within(seal, 0, seals.size() - 1));
        Seal s = seals.get(seal);
        argument(within(number, 0, s.end()));
        long was = s.counter;
        s.counter = number;
        s.seen.clear();
        if (s.way == 1 && number != 0) {
            s.seen.add(number);
        }
        return was;
    }

    int meaning(int way) {
        argument(within(way, 0, 1));
        return broken(tape) ? -1 : place(way, cut(tape));
    }

    int routed(int address) {
        int port = -1;
        int width = -1;
        for (int[] r : routes) {
            if (r[1] >= width && same(r[0], address, r[1])) {
                port = r[2];
                width = r[1];
            }
        }
        return port;
    }

    int sent(int packet, int k) {
        index(within(packet, 0, 1) && within(k, -2, sent[packet].length - 1));
        return k == -1 ? sent[packet].length : k >= 0 ? sent[packet][k] : sent[packet].length == 0 ? -1 : sentPort;
    }

    int take(int packet) {
        index(within(packet, 0, 1));
        state(sent[packet].length > 0);
        tape = sent[packet].clone();
        return tape.length;
    }

    int told(int seal, int what) {
        index(within(seal, 0, seals.size() - 1) && within(what, 0, 5));
        Seal s = seals.get(seal);
        return new int[] {s.way, s.tunnel, s.name, s.life, s.dead() ? 1 : 0, s.isLong ? 1 : 0}[what];
    }

    long top(int seal) {
        index(within(seal, 0, seals.size() - 1));
        return seals.get(seal).counter;
    }

    long seen(int seal) {
        index(within(seal, 0, seals.size() - 1));
        long bits = 0;
        for (int k = 0; k < 64; k++) {
            if (seals.get(seal).seen.contains(seals.get(seal).counter - k)) {
                bits |= 1L << k;
            }
        }
        return bits;
    }

    int tick() {
        int before = heaps.size();
        for (Heap h : heaps) {
            h.ticks++;
        }
        heaps.removeIf(h -> h.ticks == 8);
        return before - heaps.size();
    }

    int log(int k, int what) {
        index(within(k, 0, Math.min(log.size(), 16) - 1) && within(what, 0, 4));
        return log.get(log.size() - 1 - k)[what];
    }

    int ended(int reason) {
        index(within(reason, 0, 20));
        return reason < 18 ? ended[reason] : new int[] {seals.size(), sealed, heaps.size()}[reason - 18];
    }

    int come(int port) {
        argument(within(port, 0, 1));
        int reason = broken(tape) ? 1 : port == 0 ? inner(cut(tape)) : outer(cut(tape));
        ended[reason]++;
        return reason;
    }

    private static boolean broken(int[] b) {
        return b.length < 20 || b[0] != 0x45 || !within(Bytes.pair(b, 2), 20, b.length) || !Bytes.sumIsRight(b);
    }

    private static int[] cut(int[] b) {
        return Arrays.copyOf(b, Bytes.pair(b, 2));
    }

    private static boolean same(int a, int b, int width) {
        return Integer.toUnsignedLong(a) >> (32 - width) == Integer.toUnsignedLong(b) >> (32 - width);
    }

    private static boolean isPart(int[] p) {
        return Bytes.pair(p, 6) % 0x4000 != 0;
    }

    private static boolean tooMuch(int[] p) {
        return p.length > 1500 && (p[6] & 0x40) != 0;
    }

    private int place(int way, int[] p) {
        int door = (p[9] == 6 || p[9] == 17) && !isPart(p) && p.length >= 24 ? Bytes.pair(p, 22) : -1;
        for (int k = 0; k < policies.size(); k++) {
            int[] q = policies.get(k);
            boolean kind = q[6] == 0 || q[6] == p[9];
            boolean doors = q[7] == 0 && q[8] == 65535 || door >= 0 && within(door, q[7], q[8]);
            if (q[0] == way && same(q[1], Bytes.word(p, 12), q[2]) && same(q[3], Bytes.word(p, 16), q[4]) && kind && doors) {
                return k;
            }
        }
        return -1;
    }

    private int inner(int[] p) {
        if (p[8] < 2) {
            return 2;
        }
        if (routed(Bytes.word(p, 16)) != 1) {
            return 3;
        }
        int place = place(0, p);
        int done = place < 0 ? -2 : policies.get(place)[5];
        if (done == -2) {
            return 4;
        }
        if (done == -1) {
            return tooMuch(p) ? 6 : send(Bytes.oneHopLess(p), 1);
        }
        Seal seal = null;
        for (Seal s : seals) {
            if (s.way == 0 && s.tunnel == done && !s.dead() && s.counter != s.end()) {
                seal = s;
            }
        }
        if (seal == null) {
            return 5;
        }
        int[] content = Bytes.sealedContent(Bytes.text(Bytes.oneHopLess(p)), seal.name, seal.key, seal.stampKey,
            seal.isLong, seal.counter + 1);
        int[] out = Bytes.with(Bytes.packet(own, peers[done], 50, 64, content), p[1], sealed % 65536,
            Bytes.pair(p, 6) & Bytes.DONT);
        if (tooMuch(out)) {
            return 6;
        }
        seal.counter++;
        seal.life--;
        sealed++;
        return send(out, 1);
    }

    private int outer(int[] p) {
        if (p[9] != 50 || Bytes.word(p, 16) != own) {
            return letIn(p, -1, 0, 0);
        }
        int[] whole = p;
        if (isPart(p)) {
            Heap heap = heap(p);
            if (isWrong(p, heap)) {
                heaps.remove(heap);
                return 17;
            }
            whole = keepPart(p, heap);
            if (whole == null) {
                return 7;
            }
        }
        int n = whole.length - 20;
        if (n < 20 || (n - 16) % 4 != 0) {
            return 8;
        }
        return open(whole);
    }

    private Heap heap(int[] p) {
        for (Heap h : heaps) {
            if (h.from == Bytes.word(p, 12) && h.number == Bytes.pair(p, 4)) {
                return h;
            }
        }
        return null;
    }

    private static boolean isWrong(int[] p, Heap h) {
        boolean more = (p[6] & 0x20) != 0;
        int n = p.length - 20;
        int start = Bytes.pair(p, 6) % 0x2000 * 8;
        if (more && (n == 0 || n % 8 != 0) || start + n > 1980) {
            return true;
        }
        if (h == null) {
            return false;
        }
        for (int k = start; k < start + n; k++) {
            if (h.bytes.containsKey(k)) {
                return true;
            }
        }
        boolean behind = h.bytes.ceilingKey(start + n) != null;
        return !more && (h.end >= 0 || behind) || h.end >= 0 && start + n > h.end;
    }

    private int[] keepPart(int[] p, Heap known) {
        Heap h = known;
        if (h == null) {
            h = new Heap();
            h.from = Bytes.word(p, 12);
            h.number = Bytes.pair(p, 4);
            if (heaps.size() == 4) {
                heaps.remove(0);
            }
            heaps.add(h);
        }
        int start = Bytes.pair(p, 6) % 0x2000 * 8;
        for (int k = 20; k < p.length; k++) {
            h.bytes.put(start + k - 20, p[k]);
        }
        if (start == 0) {
            h.head = Arrays.copyOf(p, 20);
        }
        if ((p[6] & 0x20) == 0) {
            h.end = start + p.length - 20;
        }
        if (h.end < 0) {
            return null;
        }
        int[] content = new int[h.end];
        for (int k = 0; k < h.end; k++) {
            if (!h.bytes.containsKey(k)) {
                return null;
            }
            content[k] = h.bytes.get(k);
        }
        heaps.remove(h);
        int[] whole = Bytes.join(h.head, content);
        whole[6] &= 0xDF;
        return Bytes.putPair(whole, 2, whole.length);
    }

    private Seal named(int name) {
        for (Seal s : seals) {
            if (s.way == 1 && s.name == name) {
                return s;
            }
        }
        return null;
    }

    private int note(int reason, int[] p, int name, int low) {
        log.add(new int[] {reason, Bytes.word(p, 12), Bytes.word(p, 16), name, low});
        return reason;
    }

    /** The one number of the 2^32 from TOP - 63 on that has these lowest bits. */
    private static BigInteger whole(Seal s, int low) {
        BigInteger l = BigInteger.valueOf(Integer.toUnsignedLong(low));
        if (!s.isLong) {
            return l;
        }
        BigInteger first = BigInteger.valueOf(s.counter).subtract(BigInteger.valueOf(63));
        return first.add(l.subtract(first).mod(BigInteger.ONE.shiftLeft(32)));
    }

    private int open(int[] p) {
        int name = Bytes.word(p, 20);
        int low = Bytes.word(p, 24);
        Seal s = named(name);
        if (s == null || s.dead() || peers[s.tunnel] != Bytes.word(p, 12)) {
            return note(9, p, name, low);
        }
        BigInteger number = whole(s, low);
        if (number.signum() <= 0 || number.bitLength() > 63 || number.longValue() < s.counter - 63) {
            return note(10, p, name, low);
        }
        long n = number.longValue();
        if (s.seen.contains(n)) {
            return note(11, p, name, low);
        }
        int[] text = Bytes.streamed(Arrays.copyOfRange(p, 28, p.length - 8), s.key, n);
        if (!Arrays.equals(Bytes.content(p), Bytes.sealedContent(text, name, s.key, s.stampKey, s.isLong, n))) {
            return note(12, p, name, low);
        }
        s.seen.add(n);
        s.counter = Math.max(s.counter, n);
        s.seen.headSet(s.counter - 63).clear();
        s.life--;
        int fill = text[text.length - 2];
        int size = text.length - 2 - fill;
        if (size < 0 || !Arrays.equals(Arrays.copyOfRange(text, size, size + fill), Bytes.content(fill, 1))) {
            return 13;
        }
        if (text[text.length - 1] != 4) {
            return text[text.length - 1] == 59 ? 14 : 13;
        }
        int[] inner = Arrays.copyOf(text, size);
        if (broken(inner) || Bytes.pair(inner, 2) != size) {
            return 15;
        }
        return letIn(inner, s.tunnel, name, low);
    }

    private int letIn(int[] p, int allowed, int name, int low) {
        int place = place(1, p);
        if (place < 0 || policies.get(place)[5] != allowed) {
            return note(16, p, name, low);
        }
        if (p[8] < 2) {
            return 2;
        }
        if (routed(Bytes.word(p, 16)) != 0) {
            return 3;
        }
        return tooMuch(p) ? 6 : send(Bytes.oneHopLess(p), 0);
    }

    private int send(int[] p, int port) {
        sentPort = port;
        if (p.length <= 1500) {
            sent = new int[][] {p, {}};
            return 0;
        }
        int flags = Bytes.pair(p, 6);
        int[] one = Bytes.part(p, 0, 1480, true);
        int[] two = Bytes.part(p, 1480, p.length - 1500, false);
        sent = new int[][] {Bytes.mend(Bytes.putPair(one, 6, flags | Bytes.MORE)),
            Bytes.mend(Bytes.putPair(two, 6, flags / 0x2000 * 0x2000 + (flags + 185) % 0x2000))};
        return 0;
    }
}
