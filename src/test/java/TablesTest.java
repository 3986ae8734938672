/** Promises 8 to 14, 16, 17, 20 to 22: the tables, what stands in them, and who means a packet. */
public final class TablesTest {
    private static final Due DUE = new Due("TablesTest");
    private static final int[] EDGES = {-1, Integer.MIN_VALUE, Integer.MAX_VALUE};

    public static void main(String[] args) {
        routing();
        peers();
        policies();
        doors();
        seals();
        counting();
        stopping();
        DUE.finish();
    }

    private static void routing() {
        Gate g = new Gate(1);
        DUE.is("route", g.route(0x0A000000, 8, 0), 1);
        DUE.is("routed", g.routed(0x0AFFFFFF), 0);
        DUE.is("routed elsewhere", g.routed(0x0B000000), -1);
        DUE.is("a wider one", g.route(0x0A0B0000, 16, 1), 2);
        DUE.is("routed by the wider", g.routed(0x0A0B0001), 1);
        DUE.is("routed by the other", g.routed(0x0A0C0001), 0);
        g.route(0x0A0B7777, 8, 1);
        DUE.is("routed by the latest of one width", g.routed(0x0A0C0001), 1);
        g.route(0, 0, 0);
        DUE.is("routed by width 0", g.routed(0xFFFFFFFF), 0);
        DUE.is("not by width 0", g.routed(0x0A0C0001), 1);
        g.route(0x80000000, 1, 1);
        DUE.is("routed by width 1", g.routed(0xFFFFFFFF), 1);
        DUE.is("not by width 1", g.routed(0x7FFFFFFF), 0);
        g.route(0xFFFFFFFF, 32, 0);
        DUE.is("routed by width 32", g.routed(0xFFFFFFFF), 0);
        DUE.is("not by width 32", g.routed(0xFFFFFFFE), 1);
        g.route(0xFFFFFFFF, 31, 1);
        DUE.is("31 is less than 32", g.routed(0xFFFFFFFF), 0);
        for (int n = 8; n <= 16; n++) {
            DUE.is("route", g.route(n, 32, n & 1), n);
        }
        DUE.state("route behind 16", () -> g.route(0, 0, 0));
        DUE.is("routed(15)", g.routed(15), 1);
        for (int e : EDGES) {
            DUE.argument("route width, before 16", () -> g.route(0, e, 0));
            DUE.argument("route port, before 16", () -> g.route(0, 0, e));
        }
        DUE.argument("route width 33", () -> g.route(0, 33, 0));
        DUE.argument("route port 2", () -> g.route(0, 0, 2));
        DUE.is("as it was", g.routed(5), 0);
    }

    private static void peers() {
        Gate g = new Gate(1);
        for (int t = 0; t < 4; t++) {
            DUE.is("peer", g.peer(t, 100 + t), 0);
        }
        for (int t = 0; t < 4; t++) {
            DUE.is("peer again", g.peer(t, -1), 100 + t);
        }
        DUE.is("peer", g.peer(3, 0), -1);
        DUE.index("peer(4)", () -> g.peer(4, 0));
        for (int e : EDGES) {
            DUE.index("peer(" + e + ")", () -> g.peer(e, 0));
        }
    }

    private static void policies() {
        Gate g = new Gate(1);
        g.make(0x0A000001, 0x0B000001, 1, 9, 0, 0);
        DUE.is("policy", g.policy(1, 0, 0, 0, 0, -1), 1);
        DUE.is("meaning: another way", g.meaning(0), -1);
        DUE.is("meaning(1)", g.meaning(1), 0);
        DUE.is("policy", g.policy(0, 0x0A000000, 8, 0x0C000000, 8, -2), 2);
        DUE.is("meaning: to another", g.meaning(0), -1);
        DUE.is("policy", g.policy(0, 0x0C000000, 8, 0x0B000000, 8, 3), 3);
        DUE.is("meaning: from another", g.meaning(0), -1);
        DUE.is("policy", g.policy(0, 0x0A000001, 32, 0x0B000001, 32, 0), 4);
        DUE.is("meaning(0): its place among all", g.meaning(0), 3);
        g.policy(0, 0, 0, 0, 0, 1);
        DUE.is("meaning(0): the first one", g.meaning(0), 3);
        g.make(0x0A000002, 0x0B000001, 1, 9, 0, 0);
        DUE.is("meaning(0): a later one", g.meaning(0), 4);
        g.poke(11, g.at(11) ^ 1);
        DUE.is("meaning(0): BROKEN", g.meaning(0), -1);
        DUE.argument("meaning(2)", () -> g.meaning(2));
        for (int n = 6; n <= 24; n++) {
            DUE.is("policy", g.policy(n & 1, n, 32, n, 32, -2), n);
        }
        DUE.state("policy behind 24", () -> g.policy(0, 0, 0, 0, 0, 0));
        DUE.argument("policy way 2", () -> g.policy(2, 0, 0, 0, 0, 0));
        DUE.argument("policy from 33", () -> g.policy(0, 0, 33, 0, 0, 0));
        DUE.argument("policy to 33", () -> g.policy(0, 0, 0, 0, 33, 0));
        DUE.argument("policy done 4", () -> g.policy(0, 0, 0, 0, 0, 4));
        DUE.argument("policy done -3", () -> g.policy(0, 0, 0, 0, 0, -3));
        for (int e : EDGES) {
            DUE.argument("policy way", () -> g.policy(e, 0, 0, 0, 0, 0));
            DUE.argument("policy from", () -> g.policy(0, 0, e, 0, 0, 0));
            DUE.argument("policy to", () -> g.policy(0, 0, 0, 0, e, 0));
            DUE.argument("meaning", () -> g.meaning(e));
        }
        g.make(24, 24, 1, 9, 0, 0);
        DUE.is("meaning: the 24th is behind an any", g.meaning(0), 4);
        g.make(23, 23, 1, 9, 0, 0);
        DUE.is("meaning: the first is any", g.meaning(1), 0);
    }

    private static int meaning(Gate g, int kind, int n, int number) {
        g.make(1, 2, kind, 9, n, number);
        return g.meaning(0);
    }

    private static void doors() {
        Gate g = new Gate(1);
        int door = 12 * 256 + 13;
        g.meant(17, door, door);
        g.policy(0, 0, 0, 0, 0, 0);
        DUE.is("its door", meaning(g, 17, 4, 10), 0);
        DUE.is("its door, another kind", meaning(g, 6, 4, 10), -1);
        DUE.is("another door", meaning(g, 17, 4, 11), -1);
        DUE.is("3 bytes: no door", meaning(g, 17, 3, 10), -1);
        g.meant(0, door, 65535);
        g.policy(0, 0, 0, 0, 0, 0);
        DUE.is("kind 6 has a door", meaning(g, 6, 4, 10), 1);
        DUE.is("from its door on", meaning(g, 6, 4, 11), 1);
        DUE.is("below its door", meaning(g, 6, 4, 9), -1);
        DUE.is("kind 1 has none", meaning(g, 1, 4, 10), -1);
        DUE.is("kind 50 has none", meaning(g, 50, 40, 10), -1);
        g.make(1, 2, 6, 9, 4, 10);
        g.poke(7, 1);
        g.sum();
        DUE.is("a PART by its OFFSET has none", g.meaning(0), -1);
        g.poke(7, 0);
        g.poke(6, 0x20);
        g.sum();
        DUE.is("a PART by MORE has none", g.meaning(0), -1);
        g.poke(6, 0xC0);
        g.sum();
        DUE.is("DONT and bit 15 make no PART", g.meaning(0), 1);
        g.type(0);
        DUE.is("bytes behind LENGTH do not count", g.meaning(0), 1);
        g.make(1, 2, 17, 9, 8, 10);
        g.poke(3, 23);
        g.sum();
        DUE.is("content behind LENGTH is no door", g.meaning(0), -1);
        g.poke(3, 24);
        g.sum();
        DUE.is("content up to LENGTH is one", g.meaning(0), 0);
        g.meant(0, 0, 65534);
        g.policy(0, 0, 0, 0, 0, 0);
        DUE.is("0 to 65534 does not mean none", meaning(g, 1, 4, 0), -1);
        DUE.is("0 to 65534 means a door", meaning(g, 6, 4, 0), 2);
        g.meant(0, 1, 65535);
        DUE.argument("policy that throws", () -> g.policy(0, 0, 40, 0, 0, 0));
        g.policy(0, 0, 0, 0, 0, 0);
        DUE.is("meant stays when policy throws", meaning(g, 1, 4, 0), -1);
        g.policy(0, 0, 0, 0, 0, 0);
        DUE.is("any behind each policy", meaning(g, 1, 4, 0), 4);
        g.meant(1, 0, 65535);
        g.meant(2, 0, 65535);
        DUE.argument("meant low -1", () -> g.meant(3, -1, 0));
        DUE.argument("meant high 65536", () -> g.meant(3, 0, 65536));
        DUE.argument("meant low above high", () -> g.meant(3, 5, 4));
        DUE.argument("meant kind 256", () -> g.meant(256, 0, 0));
        for (int e : EDGES) {
            DUE.argument("meant kind", () -> g.meant(e, 0, 0));
        }
        g.policy(1, 0, 0, 0, 0, 0);
        g.make(1, 2, 2, 9, 0, 0);
        DUE.is("the latest meant counts", g.meaning(1), 5);
        g.make(1, 2, 1, 9, 0, 0);
        DUE.is("the latest meant counts alone", g.meaning(1), -1);
        g.clear();
        g.meant(17, 0, 0);
        g.policy(0, 0, 0, 0, 0, 0);
        DUE.is("door 0", meaning(g, 17, 300, 254), -1);
        g.poke(22, 0);
        g.poke(23, 0);
        DUE.is("door 0", g.meaning(0), 0);
        for (int n = 0; n < 4; n++) {
            DUE.is(n + " bytes are no door 0", meaning(g, 17, n, 0), -1);
        }
        g.clear();
        g.meant(9, 0, 65535);
        g.clear();
        g.policy(0, 0, 0, 0, 0, 0);
        DUE.is("any behind clear", meaning(g, 1, 0, 0), 0);
    }

    private static void seals() {
        Gate g = new Gate(1);
        DUE.is("seal", g.seal(0, 3, 256, 1, 2, true, 1), 0);
        DUE.is("seal of the same name out", g.seal(0, 2, 256, 1, 2, false, 1000000), 1);
        DUE.is("seal of the same name in", g.seal(1, 1, 256, 1, 2, false, 7), 2);
        DUE.state("another one in", () -> g.seal(1, 0, 256, 1, 2, true, 7));
        // Promise 12 names no way of the new seal here: that one of the way in has the name is enough.
        DUE.state("another one out", () -> g.seal(0, 0, 256, 1, 2, true, 7));
        int[][] want = {{0, 3, 256, 1, 0, 1}, {0, 2, 256, 1000000, 0, 0}, {1, 1, 256, 7, 0, 0}};
        for (int s = 0; s < want.length; s++) {
            for (int what = 0; what < 6; what++) {
                DUE.is("told(" + s + ", " + what + ")", g.told(s, what), want[s][what]);
            }
            DUE.is("top", g.top(s), 0);
            DUE.is("seen", g.seen(s), 0);
        }
        DUE.is("ended(18)", g.ended(18), 3);
        DUE.index("told(3, 0)", () -> g.told(3, 0));
        DUE.index("told(0, 6)", () -> g.told(0, 6));
        DUE.argument("seal way 2", () -> g.seal(2, 0, 256, 0, 0, true, 1));
        DUE.argument("seal name 255", () -> g.seal(1, 0, 255, 0, 0, true, 1));
        DUE.argument("seal life 0", () -> g.seal(1, 0, 300, 0, 0, true, 0));
        DUE.argument("seal life 1000001", () -> g.seal(1, 0, 300, 0, 0, true, 1000001));
        DUE.index("seal tunnel 4 before its way", () -> g.seal(2, 4, 0, 0, 0, true, 0));
        DUE.argument("seal way before its name", () -> g.seal(2, 0, 256, 0, 0, true, 1));
        for (int e : EDGES) {
            DUE.index("seal tunnel", () -> g.seal(0, e, 256, 0, 0, true, 1));
            DUE.argument("seal way", () -> g.seal(e, 0, 256, 0, 0, true, 1));
            DUE.argument("seal life", () -> g.seal(0, 0, 300, 0, 0, true, e));
            DUE.index("told", () -> g.told(e, 0));
            DUE.index("told what", () -> g.told(0, e));
            DUE.index("top", () -> g.top(e));
            DUE.index("seen", () -> g.seen(e));
            DUE.index("stop", () -> g.stop(e));
        }
        DUE.argument("seal name", () -> g.seal(0, 0, Integer.MIN_VALUE, 0, 0, true, 1));
        DUE.is("seal of the highest name", g.seal(1, 0, Integer.MAX_VALUE, 0, 0, true, 1), 3);
        for (int n = 4; n < 16; n++) {
            DUE.is("seal", g.seal(1, 0, 300 + n, 0, 0, true, 1), n);
        }
        DUE.state("seal behind 16", () -> g.seal(0, 0, 999, 0, 0, true, 1));
        DUE.is("ended(18)", g.ended(18), 16);
    }

    private static void counting() {
        Gate g = new Gate(1);
        g.seal(0, 0, 256, 1, 2, false, 9);
        g.seal(1, 0, 256, 1, 2, true, 9);
        DUE.is("count", g.count(0, 4294967295L), 0);
        DUE.is("count", g.count(0, 5), 4294967295L);
        DUE.is("seen of the way out", g.seen(0), 0);
        DUE.is("top of the way out", g.top(0), 5);
        DUE.argument("count above 2^32 - 1", () -> g.count(0, 4294967296L));
        DUE.argument("count below 0", () -> g.count(0, -1));
        DUE.argument("count below 0, LONG", () -> g.count(1, Long.MIN_VALUE));
        DUE.index("count(2) before its number", () -> g.count(2, -1));
        DUE.index("count(-1)", () -> g.count(-1, 0));
        DUE.is("count LONG", g.count(1, Long.MAX_VALUE), 0);
        DUE.is("just that is SEEN", g.seen(1), 1);
        DUE.is("count LONG", g.count(1, 0), Long.MAX_VALUE);
        DUE.is("0 is not SEEN", g.seen(1), 0);
        DUE.is("top", g.top(1), 0);
        DUE.is("as it was", g.top(0), 5);
    }

    private static void stopping() {
        Gate g = new Gate(1);
        g.seal(0, 0, 256, 1, 2, false, 9);
        g.seal(1, 0, 256, 1, 2, false, 9);
        DUE.is("stop", g.stop(1), true);
        DUE.is("stop again", g.stop(1), false);
        DUE.is("DEAD", g.told(1, 4), 1);
        DUE.is("LIFE stays", g.told(1, 3), 9);
        DUE.is("the other is not", g.told(0, 4), 0);
        DUE.index("stop(2)", () -> g.stop(2));
        DUE.state("a stopped one keeps its name", () -> g.seal(1, 0, 256, 1, 2, false, 9));
    }
}
