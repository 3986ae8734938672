import java.util.List;
import java.util.function.Consumer;
import java.util.function.Supplier;

/**
 * Every call that the document refuses: what it throws, also when several would do, and that it changes nothing.
 * For that each is made in a state of its own, and all that can be asked, and all that calls behind it answer, is held
 * against the same state without it.
 */
public final class RefusedTest {
    private static final Due DUE = new Due("RefusedTest");
    private static final Class<IndexOutOfBoundsException> INDEX = IndexOutOfBoundsException.class;
    private static final Class<IllegalArgumentException> ARGUMENT = IllegalArgumentException.class;
    private static final Class<IllegalStateException> STATE = IllegalStateException.class;
    private static final int LEAST = Integer.MIN_VALUE;
    private static final int MOST = Integer.MAX_VALUE;
    private static final long TWO_32 = 1L << 32;
    private static final int OWN = 0x01020304;
    private static final int PEER = 0x05060708;
    private static final int IN = 0x0A000001;
    private static final int OUT = 0x0B000001;

    private final String name;
    private final Supplier<Gate> state;
    private final List<Long> untouched;

    private RefusedTest(String name, Supplier<Gate> state) {
        this.name = name;
        this.state = state;
        untouched = Look.all(state.get());
    }

    public static void main(String[] args) {
        states();
        inNew(new RefusedTest("a new one", () -> new Gate(OWN)));
        inSome(new RefusedTest("some", RefusedTest::some));
        inFull(new RefusedTest("full", RefusedTest::full));
        DUE.finish();
    }

    private void refused(String call, Class<? extends RuntimeException> want, Consumer<Gate> run) {
        Gate g = state.get();
        g.keepAsking(true);
        DUE.refuses(name + ": " + call, want, () -> run.accept(g));
        g.keepAsking(false);
        DUE.is(name + ": all behind " + call, Look.all(g).equals(untouched), true);
    }

    private void asked(String call, Consumer<Gate> run) {
        Gate g = state.get();
        g.keepAsking(true);
        run.accept(g);
        g.keepAsking(false);
        DUE.is(name + ": all behind " + call, Look.all(g).equals(untouched), true);
    }

    // ---- states

    private static int[] sealed(int name, long number) {
        int[] inner = Bytes.packet(OUT, IN, 17, 9, Bytes.content(13, 5));
        int[] content = Bytes.sealedContent(Bytes.text(inner), name, 7, 8, name == 301, number);
        return Bytes.packet(PEER, OWN, 50, 3, content);
    }

    private static int[] part(int number) {
        return Bytes.with(Bytes.packet(PEER, OWN, 50, 3, Bytes.content(16, 7)), 0, number, Bytes.MORE | 2);
    }

    /** Something of everything, and room for more; what meant told waits for its policy. The tape has 30 bytes. */
    private static Gate some() {
        Gate g = new Gate(OWN);
        g.route(0x0A000000, 8, 0);
        g.route(0x0B000000, 8, 1);
        g.peer(0, PEER);
        g.peer(3, 77);
        g.policy(0, 0, 0, 0x0B000000, 8, 0);
        g.policy(1, 0x0B000000, 8, 0x0A000000, 8, 0);
        g.seal(0, 0, 300, 5, 6, false, 9);
        g.seal(1, 0, 301, 7, 8, true, 9);
        g.seal(1, 1, 302, 7, 8, false, 1);
        g.seal(0, 1, 303, 1, 1, true, 5);
        g.stop(3);
        Bytes.come(g, 1, sealed(301, 70));
        g.come(1);
        Bytes.come(g, 1, part(1));
        g.tick();
        Bytes.come(g, 1, part(2));
        g.tick();
        g.make(IN, OUT, 17, 9, 1480, 1);
        g.come(0);
        g.make(IN, OUT, 6, 9, 10, 3);
        g.meant(17, 5, 9);
        return g;
    }

    /** As many of everything as there can be: routes, policies, seals, heaps, rows of the log, bytes of the tape. */
    private static Gate full() {
        Gate g = new Gate(OWN);
        for (int n = 0; n < 16; n++) {
            g.route(0x0A000000 + (n << 24), 8, n & 1);
            g.seal(n & 1, n & 3, 256 + n, n, n, n > 7, 1 + n);
        }
        for (int n = 0; n < 24; n++) {
            g.policy(n & 1, n, 32, n, 32, n % 6 - 2);
        }
        for (int n = 0; n < 4; n++) {
            Bytes.come(g, 1, part(n));
        }
        g.make(1, 2, 3, 4, 1480, 5);
        for (int n = 0; n < 16; n++) {
            g.poke(15, n);
            g.sum();
            g.come(1);
        }
        for (int n = 1500; n + 8 <= 2000; n += 8) {
            g.type(n);
        }
        return g;
    }

    /** The states are what the refused calls below take them for. */
    private static void states() {
        Gate some = some();
        DUE.is("some: the tape's last byte", some.at(29), 12);
        DUE.is("some: seals", some.ended(18), 4);
        DUE.is("some: heaps", some.ended(20), 2);
        DUE.is("some: rows of the log", some.log(0, 0), 11);
        DUE.is("some: the first that was sent", some.sent(0, -1), 1500);
        DUE.is("some: the second", some.sent(1, -1), 60);
        Gate full = full();
        DUE.is("full: the tape's last byte", full.at(1995), 1988 & 255);
        DUE.is("full: seals", full.ended(18), 16);
        DUE.is("full: heaps", full.ended(20), 4);
        DUE.is("full: rows of the log", full.log(15, 0), 16);
    }

    // ---- the calls

    private static void inNew(RefusedTest t) {
        t.refused("keep(1)", ARGUMENT, g -> g.keep(1));
        t.refused("keep(-1)", ARGUMENT, g -> g.keep(-1));
        t.refused("poke(0, 0)", INDEX, g -> g.poke(0, 0));
        t.refused("at(0)", INDEX, g -> g.at(0));
        t.refused("sum()", STATE, g -> g.sum());
        t.refused("stop(0)", INDEX, g -> g.stop(0));
        t.refused("count(0, 0)", INDEX, g -> g.count(0, 0));
        t.refused("count(0, -1)", INDEX, g -> g.count(0, -1));
        t.refused("sent(0, 0)", INDEX, g -> g.sent(0, 0));
        t.refused("sent(1, 0)", INDEX, g -> g.sent(1, 0));
        t.refused("take(0)", STATE, g -> g.take(0));
        t.refused("take(1)", STATE, g -> g.take(1));
        t.refused("take(2), none was sent", INDEX, g -> g.take(2));
        t.refused("take(-1), none was sent", INDEX, g -> g.take(-1));
        t.refused("told(0, 0)", INDEX, g -> g.told(0, 0));
        t.refused("top(0)", INDEX, g -> g.top(0));
        t.refused("seen(0)", INDEX, g -> g.seen(0));
        t.refused("log(0, 0)", INDEX, g -> g.log(0, 0));
        t.asked("keep(0)", g -> g.keep(0));
        t.asked("tick", Gate::tick);
        t.asked("clear", Gate::clear);
    }

    private static void inSome(RefusedTest t) {
        tape(t);
        tables(t);
        seals(t);
        asking(t);
        t.asked("all that only asks", RefusedTest::askAll);
    }

    private static void askAll(Gate g) {
        g.at(0);
        g.at(29);
        g.meaning(0);
        g.meaning(1);
        g.routed(IN);
        for (int p = 0; p < 2; p++) {
            for (int k = -2; k < 5; k++) {
                g.sent(p, k);
            }
        }
        for (int seal = 0; seal < 4; seal++) {
            for (int what = 0; what < 6; what++) {
                g.told(seal, what);
            }
            g.top(seal);
            g.seen(seal);
        }
        for (int what = 0; what < 5; what++) {
            g.log(0, what);
        }
        for (int reason = 0; reason <= 20; reason++) {
            g.ended(reason);
        }
    }

    private static void tape(RefusedTest t) {
        for (int n : new int[] {-1, 31, LEAST, MOST}) {
            t.refused("keep(" + n + ") of 30", ARGUMENT, g -> g.keep(n));
        }
        for (int k : new int[] {-1, 30, LEAST, MOST}) {
            t.refused("poke(" + k + ", 1)", INDEX, g -> g.poke(k, 1));
            t.refused("poke(" + k + ", 256): both", INDEX, g -> g.poke(k, 256));
            t.refused("at(" + k + ")", INDEX, g -> g.at(k));
        }
        for (int b : new int[] {-1, 256, LEAST, MOST}) {
            t.refused("poke(0, " + b + ")", ARGUMENT, g -> g.poke(0, b));
            t.refused("poke(29, " + b + ")", ARGUMENT, g -> g.poke(29, b));
            t.refused("make of kind " + b, ARGUMENT, g -> g.make(1, 2, b, 4, 5, 6));
            t.refused("make of hops " + b, ARGUMENT, g -> g.make(1, 2, 3, b, 5, 6));
        }
        for (int n : new int[] {-1, 1481, LEAST, MOST}) {
            t.refused("make of n " + n, ARGUMENT, g -> g.make(1, 2, 3, 4, n, 6));
        }
        for (int port : new int[] {-1, 2, LEAST, MOST}) {
            t.refused("come(" + port + ")", ARGUMENT, g -> g.come(port));
            t.refused("meaning(" + port + ")", ARGUMENT, g -> g.meaning(port));
        }
    }

    private static void tables(RefusedTest t) {
        for (int width : new int[] {-1, 33, LEAST, MOST}) {
            t.refused("route of width " + width, ARGUMENT, g -> g.route(0, width, 0));
            t.refused("policy from width " + width, ARGUMENT, g -> g.policy(0, 0, width, 0, 0, 0));
            t.refused("policy to width " + width, ARGUMENT, g -> g.policy(0, 0, 0, 0, width, 0));
        }
        for (int way : new int[] {-1, 2, LEAST, MOST}) {
            t.refused("route of port " + way, ARGUMENT, g -> g.route(0, 0, way));
            t.refused("policy of way " + way, ARGUMENT, g -> g.policy(way, 0, 0, 0, 0, 0));
        }
        for (int tunnel : new int[] {-1, 4, LEAST, MOST}) {
            t.refused("peer(" + tunnel + ")", INDEX, g -> g.peer(tunnel, 5));
        }
        for (int done : new int[] {-3, 4, LEAST, MOST}) {
            t.refused("policy that does " + done, ARGUMENT, g -> g.policy(0, 0, 0, 0, 0, done));
        }
        for (int kind : new int[] {-1, 256, LEAST, MOST}) {
            t.refused("meant of kind " + kind, ARGUMENT, g -> g.meant(kind, 0, 65535));
        }
        for (int low : new int[] {-1, LEAST, 7, 65536, MOST}) {
            t.refused("meant from door " + low + " to 6", ARGUMENT, g -> g.meant(0, low, 6));
        }
        for (int high : new int[] {65536, MOST, -1, LEAST}) {
            t.refused("meant from door 0 to " + high, ARGUMENT, g -> g.meant(0, 0, high));
        }
    }

    private static void seals(RefusedTest t) {
        for (int tunnel : new int[] {-1, 4, LEAST, MOST}) {
            t.refused("seal of tunnel " + tunnel, INDEX, g -> g.seal(0, tunnel, 999, 1, 1, false, 9));
            t.refused("seal of that and way 2", INDEX, g -> g.seal(2, tunnel, 999, 1, 1, false, 9));
            t.refused("seal of that and name 255", INDEX, g -> g.seal(1, tunnel, 255, 1, 1, false, 9));
            t.refused("seal of that and life 0", INDEX, g -> g.seal(1, tunnel, 999, 1, 1, false, 0));
            t.refused("seal of that and a name that one has", INDEX, g -> g.seal(1, tunnel, 301, 1, 1, false, 9));
        }
        for (int way : new int[] {-1, 2, LEAST, MOST}) {
            t.refused("seal of way " + way, ARGUMENT, g -> g.seal(way, 0, 999, 1, 1, false, 9));
            t.refused("seal of that and a name that one has", ARGUMENT, g -> g.seal(way, 0, 301, 1, 1, false, 9));
        }
        for (int low : new int[] {255, 0, -1, LEAST}) {
            t.refused("seal of name " + low, ARGUMENT, g -> g.seal(0, 0, low, 1, 1, false, 9));
            t.refused("seal in of name " + low, ARGUMENT, g -> g.seal(1, 0, low, 1, 1, true, 9));
        }
        for (int life : new int[] {0, -1, 1000001, LEAST, MOST}) {
            t.refused("seal of life " + life, ARGUMENT, g -> g.seal(0, 0, 999, 1, 1, false, life));
            t.refused("seal of that and a name that one has", ARGUMENT, g -> g.seal(1, 0, 301, 1, 1, false, life));
        }
        t.refused("seal of a name that one has", STATE, g -> g.seal(1, 3, 301, 1, 1, false, 9));
        t.refused("seal of a name that another has", STATE, g -> g.seal(1, 3, 302, 1, 1, true, 9));
        for (int seal : new int[] {-1, 4, LEAST, MOST}) {
            t.refused("stop(" + seal + ")", INDEX, g -> g.stop(seal));
            t.refused("count(" + seal + ", 0)", INDEX, g -> g.count(seal, 0));
            t.refused("count(" + seal + ", -1): both", INDEX, g -> g.count(seal, -1));
        }
        for (long number : new long[] {-1, Long.MIN_VALUE}) {
            for (int seal = 0; seal < 4; seal++) {
                int s = seal;
                t.refused("count(" + seal + ", " + number + ")", ARGUMENT, g -> g.count(s, number));
            }
        }
        for (long number : new long[] {TWO_32, TWO_32 + 1, Long.MAX_VALUE}) {
            t.refused("count(0, " + number + "), not LONG", ARGUMENT, g -> g.count(0, number));
            t.refused("count(2, " + number + "), not LONG", ARGUMENT, g -> g.count(2, number));
        }
    }

    private static void asking(RefusedTest t) {
        for (int packet : new int[] {-1, 2, LEAST, MOST}) {
            t.refused("sent(" + packet + ", 0)", INDEX, g -> g.sent(packet, 0));
            t.refused("sent(" + packet + ", -1)", INDEX, g -> g.sent(packet, -1));
            t.refused("sent(" + packet + ", -2)", INDEX, g -> g.sent(packet, -2));
            t.refused("take(" + packet + ")", INDEX, g -> g.take(packet));
        }
        for (int k : new int[] {-3, 1500, LEAST, MOST}) {
            t.refused("sent(0, " + k + ")", INDEX, g -> g.sent(0, k));
        }
        for (int k : new int[] {-3, 60, LEAST, MOST}) {
            t.refused("sent(1, " + k + ")", INDEX, g -> g.sent(1, k));
        }
        for (int seal : new int[] {-1, 4, LEAST, MOST}) {
            t.refused("told(" + seal + ", 0)", INDEX, g -> g.told(seal, 0));
            t.refused("top(" + seal + ")", INDEX, g -> g.top(seal));
            t.refused("seen(" + seal + ")", INDEX, g -> g.seen(seal));
        }
        for (int what : new int[] {-1, 6, LEAST, MOST}) {
            t.refused("told(3, " + what + ")", INDEX, g -> g.told(3, what));
        }
        for (int k : new int[] {-1, 1, LEAST, MOST}) {
            t.refused("log(" + k + ", 0)", INDEX, g -> g.log(k, 0));
        }
        for (int what : new int[] {-1, 5, LEAST, MOST}) {
            t.refused("log(0, " + what + ")", INDEX, g -> g.log(0, what));
        }
        for (int reason : new int[] {-1, 21, LEAST, MOST}) {
            t.refused("ended(" + reason + ")", INDEX, g -> g.ended(reason));
        }
    }

    private static void inFull(RefusedTest t) {
        t.refused("type", STATE, g -> g.type(-1));
        t.refused("route", STATE, g -> g.route(0, 0, 0));
        t.refused("route of width 33: both", ARGUMENT, g -> g.route(0, 33, 0));
        t.refused("route of width -1: both", ARGUMENT, g -> g.route(0, -1, 0));
        t.refused("route of port 2: both", ARGUMENT, g -> g.route(0, 0, 2));
        t.refused("policy", STATE, g -> g.policy(0, 0, 0, 0, 0, 0));
        t.refused("policy of way 2: both", ARGUMENT, g -> g.policy(2, 0, 0, 0, 0, 0));
        t.refused("policy from width 33: both", ARGUMENT, g -> g.policy(0, 0, 33, 0, 0, 0));
        t.refused("policy to width -1: both", ARGUMENT, g -> g.policy(0, 0, 0, 0, -1, 0));
        t.refused("policy that does 4: both", ARGUMENT, g -> g.policy(0, 0, 0, 0, 0, 4));
        t.refused("policy that does -3: both", ARGUMENT, g -> g.policy(0, 0, 0, 0, 0, -3));
        t.refused("seal out", STATE, g -> g.seal(0, 0, 999, 1, 1, false, 9));
        t.refused("seal in", STATE, g -> g.seal(1, 0, 999, 1, 1, false, 9));
        t.refused("seal in of a name that one has", STATE, g -> g.seal(1, 0, 257, 1, 1, false, 9));
        t.refused("seal of tunnel 4: both", INDEX, g -> g.seal(0, 4, 999, 1, 1, false, 9));
        t.refused("seal of tunnel -1 and way 2: all", INDEX, g -> g.seal(2, -1, 999, 1, 1, false, 9));
        t.refused("seal of way 2: both", ARGUMENT, g -> g.seal(2, 0, 999, 1, 1, false, 9));
        t.refused("seal of name 255: both", ARGUMENT, g -> g.seal(0, 0, 255, 1, 1, false, 9));
        t.refused("seal of life 0: both", ARGUMENT, g -> g.seal(0, 0, 999, 1, 1, false, 0));
        t.refused("seal of life 1000001: both", ARGUMENT, g -> g.seal(0, 0, 999, 1, 1, false, 1000001));
        t.refused("stop(16)", INDEX, g -> g.stop(16));
        t.refused("count(16, 0)", INDEX, g -> g.count(16, 0));
        t.refused("told(16, 0)", INDEX, g -> g.told(16, 0));
        t.refused("top(16)", INDEX, g -> g.top(16));
        t.refused("seen(16)", INDEX, g -> g.seen(16));
        t.refused("log(16, 0)", INDEX, g -> g.log(16, 0));
        t.refused("keep(1997) of 1996", ARGUMENT, g -> g.keep(1997));
        t.refused("poke(1996, 0)", INDEX, g -> g.poke(1996, 0));
        t.refused("take(0)", STATE, g -> g.take(0));
    }
}
