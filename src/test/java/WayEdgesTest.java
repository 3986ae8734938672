import java.util.Arrays;

/** Section 5 of the document, WAYS, and promises 15, 18, 19, 24 to 26: which reason counts first, and at which edge. */
public final class WayEdgesTest {
    private static final Due DUE = new Due("WayEdgesTest");
    private static final int OWN = 0x01020304;
    private static final int PEER = 0x85060708;
    private static final int IN = 0x0A000001;
    private static final int OUT = 0x0B000001;
    private static final int AWAY = 0x0C000001;
    private static final int NAME = 0x12345678;
    private static final long KEY = -5;
    private static final long STAMP_KEY = 6;

    public static void main(String[] args) {
        ports();
        innerReasons();
        hops();
        otherPackets();
        whoIsSealed();
        sealedReasons();
        tunnelsOfPolicies();
        rowsOfTheLog();
        sixteenRowsOfTheLog();
        signsInTheLog();
        endings();
        sentBefore();
        sentAfterParts();
        clearOfAll();
        ownStays();
        DUE.finish();
    }

    /** The tape's bytes come THROUGH a port (0, 1); the tape stays. */
    private static void ports() {
        for (int port : new int[] {-1, 2, Integer.MIN_VALUE, Integer.MAX_VALUE}) {
            Gate g = new Gate(OWN);
            DUE.argument("come(" + port + ")", () -> g.come(port));
            for (int k = 0; k < 18; k++) {
                DUE.is("ended(" + k + ")", g.ended(k), 0);
            }
        }
        for (int port = 0; port <= 1; port++) {
            Gate g = sent();
            int n = g.make(IN, port == 0 ? AWAY : IN, 1, 9, 40, 3);
            int[] before = Bytes.tape(g, n);
            g.policy(1, 0, 0, 0, 0, -1);
            g.route(IN, 32, 0);
            for (int turn = 0; turn < 2; turn++) {
                DUE.is("come", g.come(port), 0);
                DUE.is("the tape stays", Arrays.equals(Bytes.tape(g, n), before), true);
                DUE.index("no more", () -> g.at(n));
            }
            DUE.is("an empty tape", emptied(g).come(port), 1);
        }
    }

    private static Gate emptied(Gate g) {
        g.keep(0);
        return g;
    }

    /** A gateway that has sent 33 bytes at the outer port before, so that it is seen when nothing else is sent. */
    private static Gate sent() {
        Gate g = new Gate(OWN);
        g.route(AWAY, 32, 1);
        g.policy(0, 0, 0, AWAY, 32, -1);
        g.make(IN, AWAY, 1, 9, 13, 0);
        g.come(0);
        return g;
    }

    private static void endedWith(Gate g, String what, int got, int want, int before) {
        DUE.is(what, got, want);
        for (int k = 0; k < 18; k++) {
            int due = (k == want ? 1 : 0) + (k == 0 ? before : 0);
            DUE.is(what + ": ended(" + k + ")", g.ended(k), due);
        }
        if (want != 0) {
            DUE.is(what + ": what was sent stays", g.sent(0, -1), 33);
            DUE.is(what + ": its port too", g.sent(0, -2), 1);
            DUE.is(what + ": no second one", g.sent(1, -1), 0);
        }
    }

    /** THROUGH THE INNER PORT: the first one of those named that is so counts, in all mixtures. */
    private static void innerReasons() {
        for (int broken = 0; broken <= 1; broken++) {
            for (int hops : new int[] {0, 1, 2, 255}) {
                for (int route = -1; route <= 1; route++) {
                    for (int done : new int[] {-3, -2, -1, 3}) {
                        for (int seal = 0; seal < 4; seal++) {
                            for (int n : new int[] {0, 1442, 1443, 1480}) {
                                innerReason(broken == 1, hops, route, done, seal, n);
                            }
                        }
                    }
                }
            }
        }
    }

    /** done -3: no policy. Seal 0: none, 1: stopped, 2: at its end, 3: one that can. All n have DONT. */
    private static void innerReason(boolean isBroken, int hops, int route, int done, int seal, int n) {
        Gate g = sent();
        if (route >= 0) {
            g.route(OUT, 32, route);
        }
        if (done > -3) {
            g.policy(0, IN, 32, OUT, 32, done);
        }
        if (seal > 0) {
            g.seal(0, 3, 300, 1, 2, false, 9);
        }
        if (seal == 1) {
            g.stop(0);
        }
        if (seal == 2) {
            g.count(0, 4294967295L);
        }
        g.make(IN, OUT, 17, hops, n, 1);
        g.poke(6, 0x40);
        g.sum();
        if (isBroken) {
            g.poke(1, 1);
        }
        int want = isBroken ? 1 : hops < 2 ? 2 : route != 1 ? 3 : done < -1 ? 4 : done == -1 ? 0 : seal < 3 ? 5
            : n > 1442 ? 6 : 0;
        endedWith(g, "hops " + hops + ", route " + route + ", done " + done + ", seal " + seal + ", n " + n,
            g.come(0), want, 1);
        DUE.index("the log has none of these", () -> g.log(0, 0));
        DUE.is("sealed", g.ended(19), want == 0 && done == 3 ? 1 : 0);
    }

    /** 2 its HOPS are 0 or 1; else one hop less: through both ports, plain and sealed. */
    private static void hops() {
        for (int hops = 0; hops < 256; hops++) {
            int want = hops < 2 ? 2 : 0;
            Gate g = sent();
            g.make(IN, AWAY, 1, hops, 0, 0);
            DUE.is("inner, hops " + hops, g.come(0), want);
            DUE.is("hops that are sent", g.sent(0, 8), hops < 2 ? 8 : hops - 1);
            Gate outer = sent();
            outer.route(IN, 32, 0);
            outer.policy(1, 0, 0, 0, 0, -1);
            outer.make(OUT, IN, 1, hops, 0, 0);
            DUE.is("outer, hops " + hops, outer.come(1), want);
            DUE.is("hops that are sent", outer.sent(0, 8), hops < 2 ? 8 : hops - 1);
            DUE.is("its SUM", hops < 2 || Bytes.sumIsRight(Bytes.sent(outer, 0)), true);
        }
    }

    /** Another packet: 16 no policy of the way in, or its first one is not BYPASS. Then 2, 3, 6. */
    private static void otherPackets() {
        for (int broken = 0; broken <= 1; broken++) {
            for (int done = -3; done <= 3; done++) {
                for (int hops : new int[] {0, 1, 2, 255}) {
                    for (int route = -1; route <= 1; route++) {
                        for (int n : new int[] {0, 1480, 1484}) {
                            otherPacket(broken == 1, done, hops, route, n);
                        }
                    }
                }
            }
        }
    }

    private static void otherPacket(boolean isBroken, int done, int hops, int route, int n) {
        Gate g = sent();
        if (done > -3) {
            g.policy(1, OUT, 32, IN, 32, done);
        }
        if (done != -1) {
            g.policy(0, 0, 0, 0, 0, -1);
        }
        if (route >= 0) {
            g.route(IN, 32, route);
        }
        g.make(OUT, IN, 50, hops, Math.min(n, 1480), 1);
        if (n > 1480) {
            g.type(0);
            g.poke(2, 20 + n >> 8);
            g.poke(3, 20 + n & 255);
        }
        g.poke(6, 0x40);
        g.sum();
        if (isBroken) {
            g.poke(11, g.at(11) ^ 1);
        }
        int want = isBroken ? 1 : done != -1 ? 16 : hops < 2 ? 2 : route != 0 ? 3 : n > 1480 ? 6 : 0;
        endedWith(g, "done " + done + ", hops " + hops + ", route " + route + ", n " + n, g.come(1), want, 1);
        if (want == 16) {
            logRow(g, 0, 16, OUT, IN, 0, 0);
        }
        DUE.index("no more in the log", () -> g.log(want == 16 ? 1 : 0, 0));
    }

    /** A packet of KIND 50 to the OWN address: all others are other packets. */
    private static void whoIsSealed() {
        for (int kind : new int[] {0, 6, 17, 49, 50, 51, 255}) {
            for (int to : new int[] {OWN - 1, OWN, OWN + 1, PEER}) {
                Gate g = new Gate(OWN);
                g.make(OUT, to, kind, 9, 3, 0);
                boolean isSealed = kind == 50 && to == OWN;
                DUE.is("kind " + kind + " to " + to, g.come(1), isSealed ? 8 : 16);
                DUE.is("through the inner port", g.come(0), 3);
            }
        }
    }

    // ---- sealed packets

    private static final int[] REASONS = {1, 8, 9, 9, 9, 10, 11, 12, 13, 14, 13, 15, 16, 2, 3, 6};

    private static boolean has(int faults, int k) {
        return (faults >> k & 1) != 0;
    }

    /** Faults, a bit for each, in the order in which the document names them: the first one counts, in all pairs and threes. */
    private static void sealedReasons() {
        sealedReason(0);
        for (int a = 0; a < REASONS.length; a++) {
            sealedReason(1 << a);
            for (int b = a + 1; b < REASONS.length; b++) {
                sealedReason(1 << a | 1 << b);
                for (int c = b + 1; c < REASONS.length; c++) {
                    sealedReason(1 << a | 1 << b | 1 << c);
                }
            }
        }
        sealedReason(0xFFFF);
    }

    private static int[] faultyInner(int faults) {
        int[] content = Bytes.content(has(faults, 15) ? 1481 : 3, 1);
        int[] inner = Bytes.packet(OUT, IN, 17, has(faults, 13) ? 1 : 9, content);
        if (has(faults, 15)) {
            inner = Bytes.with(inner, 0, 0, Bytes.DONT);
        }
        if (has(faults, 11)) {
            inner[11] ^= 1;
        }
        return inner;
    }

    private static int[] faultyText(int faults) {
        int[] text = Bytes.text(faultyInner(faults));
        if (has(faults, 8)) {
            text[text.length - 3] ^= 64;
        }
        if (has(faults, 9) || has(faults, 10)) {
            text[text.length - 1] = has(faults, 9) ? 59 : 5;
        }
        return text;
    }

    private static int[] faultyPacket(int faults, long number) {
        int[] content = Bytes.sealedContent(faultyText(faults), NAME, KEY, STAMP_KEY, false, number);
        if (has(faults, 2)) {
            content[0] ^= 64;
        }
        if (has(faults, 7)) {
            content[content.length - 1] ^= 1;
        }
        if (has(faults, 1)) {
            content = Arrays.copyOf(content, content.length - 1);
        }
        int[] p = Bytes.packet(has(faults, 4) ? PEER + 1 : PEER, OWN, 50, 3, content);
        if (has(faults, 0)) {
            p[10] ^= 1;
        }
        return p;
    }

    private static void sealedReason(int faults) {
        Gate g = sent();
        g.peer(2, PEER);
        g.seal(1, 2, NAME, KEY, STAMP_KEY, false, 9);
        g.count(0, 100);
        if (has(faults, 3)) {
            g.stop(0);
        }
        if (!has(faults, 12)) {
            g.policy(1, 0, 0, 0, 0, 2);
        }
        if (!has(faults, 14)) {
            g.route(IN, 32, 0);
        }
        long number = has(faults, 5) ? 36 : has(faults, 6) ? 100 : 101;
        int[] p = faultyPacket(faults, number);
        int want = faults == 0 ? 0 : REASONS[Integer.numberOfTrailingZeros(faults)];
        String what = "faults " + Integer.toBinaryString(faults);
        endedWith(g, what, Bytes.come(g, 1, p), want, 1);
        boolean isOpened = (faults & 255) == 0;
        DUE.is(what + ": top", g.top(0), isOpened ? 101 : 100);
        DUE.is(what + ": seen", g.seen(0), isOpened ? 3 : 1);
        DUE.is(what + ": LIFE", g.told(0, 3), isOpened ? 8 : 9);
        boolean isInLog = want >= 9 && want <= 12 || want == 16;
        if (isInLog) {
            logRow(g, 0, want, want == 16 ? OUT : Bytes.word(p, 12), want == 16 ? IN : OWN, Bytes.word(p, 20), (int) number);
        }
        DUE.index(what + ": no more in the log", () -> g.log(isInLog ? 1 : 0, 0));
        DUE.is(what + ": none was sealed", g.ended(19), 0);
    }

    /** 16 .. its first one does not tell the seal's tunnel. */
    private static void tunnelsOfPolicies() {
        for (int tunnel = 0; tunnel <= 3; tunnel++) {
            for (int done = -2; done <= 3; done++) {
                Gate g = sent();
                g.peer(tunnel, PEER);
                g.route(IN, 32, 0);
                g.policy(0, 0, 0, 0, 0, tunnel);
                g.policy(1, OUT, 32, IN, 32, done);
                g.policy(1, 0, 0, 0, 0, tunnel);
                g.seal(1, tunnel, NAME, KEY, STAMP_KEY, false, 9);
                endedWith(g, "tunnel " + tunnel + ", done " + done, Bytes.come(g, 1, faultyPacket(0, 1)),
                    done == tunnel ? 0 : 16, 1);
            }
        }
    }

    // ---- the log

    private static void logRow(Gate g, int k, int reason, int from, int to, int name, int number) {
        int[] want = {reason, from, to, name, number};
        for (int what = 0; what < 5; what++) {
            DUE.is("log(" + k + ", " + what + ") of " + reason, g.log(k, what), want[what]);
        }
        for (int what : new int[] {-1, 5, Integer.MIN_VALUE, Integer.MAX_VALUE}) {
            DUE.index("log(" + k + ", " + what + ")", () -> g.log(k, what));
        }
    }

    /** IndexOutOfBoundsException: also there are not so many. */
    private static void rowsOfTheLog() {
        Gate g = new Gate(OWN);
        for (int n = 0; n < 5; n++) {
            int there = n;
            DUE.index("log(" + n + ")", () -> g.log(there, 0));
            DUE.index("log(-1)", () -> g.log(-1, 0));
            g.make(100 + n, 7, 1, 9, 0, 0);
            DUE.is("come", g.come(1), 16);
            logRow(g, n, 16, 100, 7, 0, 0);
            logRow(g, 0, 16, 100 + n, 7, 0, 0);
        }
    }

    /** THE LOG has the latest 16 packets, the latest one first. */
    private static void sixteenRowsOfTheLog() {
        Gate g = new Gate(OWN);
        for (int n = 1; n <= 35; n++) {
            g.make(n, -n, 1, 9, 0, 0);
            DUE.is("come", g.come(1), 16);
            if (n >= 14 && n <= 18 || n >= 31) {
                int there = Math.min(n, 16);
                logRow(g, 0, 16, n, -n, 0, 0);
                logRow(g, there - 1, 16, n - there + 1, -(n - there + 1), 0, 0);
                DUE.index("log(" + there + ")", () -> g.log(there, 0));
            }
        }
        for (int k = 0; k < 16; k++) {
            DUE.is("log(" + k + ", 1)", g.log(k, 1), 35 - k);
        }
        DUE.is("all are counted", g.ended(16), 35);
        Gate sealed = new Gate(OWN);
        for (int n = 1; n <= 40; n++) {
            sealed.make(n, OWN, 50, 9, 20, n);
            DUE.is("come", sealed.come(1), 9);
        }
        for (int k = 0; k < 16; k++) {
            int n = 40 - k;
            logRow(sealed, k, 9, n, OWN, n * 0x01010101 + 0x00010203, n * 0x01010101 + 0x04050607);
        }
    }

    /** The NAME and the 4 bytes of the number as they stand in the packet, 0 for both when it was no sealed one. */
    private static void signsInTheLog() {
        int[] rows = {0, 1, -1, Integer.MIN_VALUE, Integer.MAX_VALUE, 0x80818283, 255, 256};
        for (int name : rows) {
            for (int number : rows) {
                Gate g = new Gate(OWN);
                int[] content = Bytes.join(Bytes.four(name), Bytes.four(number), new int[12]);
                DUE.is("come", Bytes.come(g, 1, Bytes.packet(-name, OWN, 50, 9, content)), 9);
                logRow(g, 0, 9, -name, OWN, name, number);
            }
        }
        Gate g = new Gate(OWN);
        DUE.is("no sealed one", Bytes.come(g, 1, Bytes.packet(-1, -2, 50, 9, Bytes.content(20, 1))), 16);
        logRow(g, 0, 16, -1, -2, 0, 0);
    }

    // ---- what is counted, what was sent

    /** How often packets ended with a REASON, 0 .. 17; 18, 19, 20. */
    private static void endings() {
        Gate g = sent();
        for (int reason : new int[] {-1, 21, 22, Integer.MIN_VALUE, Integer.MAX_VALUE}) {
            DUE.index("ended(" + reason + ")", () -> g.ended(reason));
        }
        for (int n = 2; n <= 100; n++) {
            DUE.is("come", g.come(0), 0);
            DUE.is("ended(0)", g.ended(0), n);
        }
        g.keep(19);
        for (int n = 1; n <= 3; n++) {
            g.come(0);
            g.come(1);
            DUE.is("ended(1), of both ports", g.ended(1), 2 * n);
        }
        DUE.is("seals", g.ended(18), 0);
        g.seal(0, 0, 300, 1, 2, false, 9);
        DUE.is("seals", g.ended(18), 1);
        g.stop(0);
        DUE.is("a DEAD one is still there", g.ended(18), 1);
        DUE.is("sealed", g.ended(19), 0);
        DUE.is("heaps", g.ended(20), 0);
    }

    /** Nothing was sent at first: 0 bytes, no port, no byte, nothing to take. */
    private static void sentBefore() {
        Gate g = new Gate(OWN);
        for (int p = 0; p < 2; p++) {
            int packet = p;
            DUE.is("how many", g.sent(p, -1), 0);
            DUE.is("port", g.sent(p, -2), -1);
            for (int k : new int[] {0, -3, 1, Integer.MIN_VALUE, Integer.MAX_VALUE}) {
                DUE.index("byte " + k, () -> g.sent(packet, k));
            }
            DUE.state("take(" + p + ")", () -> g.take(packet));
        }
        for (int p : new int[] {-1, 2, Integer.MIN_VALUE, Integer.MAX_VALUE}) {
            for (int k : new int[] {0, -1, -2}) {
                DUE.index("sent(" + p + ", " + k + ")", () -> g.sent(p, k));
            }
            DUE.index("take(" + p + ")", () -> g.take(p));
        }
    }

    /** What was SENT LAST are one or two packets: one behind two leaves no second one. */
    private static void sentAfterParts() {
        Gate g = sent();
        int[] big = Bytes.packet(IN, AWAY, 1, 9, Bytes.content(1484, 1));
        DUE.is("two", Bytes.come(g, 0, big), 0);
        DUE.is("the second", g.sent(1, -1), 24);
        DUE.is("take(1)", g.take(1), 24);
        DUE.is("dropped", g.come(1), 16);
        DUE.is("the second stays", g.sent(1, -1), 24);
        DUE.is("its port too", g.sent(1, -2), 1);
        g.policy(1, 0, 0, 0, 0, -1);
        g.route(IN, 32, 0);
        g.make(OUT, IN, 1, 9, 4, 0);
        DUE.is("one, at the inner port", g.come(1), 0);
        DUE.is("the first", g.sent(0, -1), 24);
        DUE.is("its port", g.sent(0, -2), 0);
        DUE.is("no second one", g.sent(1, -1), 0);
        DUE.is("nor its port", g.sent(1, -2), -1);
        DUE.state("nor to be taken", () -> g.take(1));
        DUE.is("the tape is as it was", g.at(23), 3);
    }

    // ---- clear

    /** A gateway with as many of everything as there can be. */
    private static Gate full() {
        Gate g = sent();
        for (int n = 1; n < 16; n++) {
            g.route(n << 24, 8, n & 1);
            g.policy(1, n, 32, 0, 0, n % 6 - 2);
            g.seal(n & 1, n & 3, 300 + n, n, n, n > 7, n);
            g.count(n - 1, n);
        }
        g.seal(0, 0, 400, 1, 1, true, 1);
        g.stop(15);
        for (int t = 0; t < 4; t++) {
            g.peer(t, 1000 + t);
            int[] part = Bytes.packet(5, OWN, 50, 9, new int[8]);
            DUE.is("kept", Bytes.come(g, 1, Bytes.with(part, 0, t, Bytes.MORE)), 7);
        }
        g.make(99, 98, 50, 9, 20, 0);
        for (int n = 0; n < 17; n++) {
            g.come(1);
        }
        for (int n = 16; n < 24; n++) {
            g.policy(0, 0, 0, 0, 0, 0);
        }
        DUE.is("seals", g.ended(18), 16);
        DUE.is("heaps", g.ended(20), 4);
        DUE.is("rows of the log", g.log(15, 0), 16);
        DUE.state("routes", () -> g.route(0, 0, 0));
        DUE.state("policies", () -> g.policy(0, 0, 0, 0, 0, 0));
        return g;
    }

    /** Something of each table, on a gateway that has none of it. */
    private static Gate filled(Gate g) {
        g.route(0, 0, 1);
        g.policy(0, 0, 0, 0, 0, 0);
        g.policy(1, 0, 0, 0, 0, 0);
        g.seal(0, 0, 300, 1, 1, true, 9);
        g.seal(1, 0, 301, 1, 1, true, 9);
        g.peer(0, OWN);
        g.make(IN, OUT, 1, 9, 1480, 0);
        DUE.is("sealed, in two", g.come(0), 0);
        g.take(0);
        DUE.is("a heap", g.come(1), 7);
        g.make(IN, OWN, 50, 9, 20, 0);
        DUE.is("a row of the log", g.come(1), 9);
        g.tick();
        g.meant(17, 5, 5);
        return g;
    }

    /** An empty tape and tables, no peers, all counted from 0 again; nothing was sent: like a new one. */
    private static void clearOfAll() {
        Gate[] rows = {new Gate(OWN), filled(new Gate(OWN)), full()};
        for (Gate g : rows) {
            g.clear();
            DUE.is("like a new one", Look.all(g).equals(Look.all(new Gate(OWN))), true);
            g.clear();
            DUE.is("again", Look.all(g).equals(Look.all(new Gate(OWN))), true);
        }
        Gate g = full();
        g.clear();
        DUE.is("and like a new one in use", Look.all(filled(g)).equals(Look.all(filled(new Gate(OWN)))), true);
    }

    /** The OWN address stays. */
    private static void ownStays() {
        for (int own : new int[] {0, 1, -1, Integer.MIN_VALUE, Integer.MAX_VALUE, OWN}) {
            Gate g = new Gate(own);
            for (int turn = 0; turn < 2; turn++) {
                g.route(OUT, 32, 1);
                g.policy(0, 0, 0, 0, 0, 1);
                g.seal(0, 1, 300, KEY, STAMP_KEY, true, 9);
                g.make(IN, OUT, 1, 9, 0, 0);
                DUE.is("come", g.come(0), 0);
                int[] head = Arrays.copyOf(Bytes.sent(g, 0), 20);
                DUE.is("from OWN " + own, Bytes.word(head, 12), own);
                DUE.is("to the PEER, 0 at first", Bytes.word(head, 16), 0);
                DUE.is("NUMBER", Bytes.pair(head, 4), 0);
                g.make(OUT, own, 50, 9, 0, 0);
                DUE.is("to OWN", g.come(1), 8);
                g.make(OUT, own ^ 1, 50, 9, 0, 0);
                DUE.is("to another", g.come(1), 16);
                g.clear();
            }
        }
    }
}
