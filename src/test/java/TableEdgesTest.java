/** Section 2 of the document, TABLES, and promises 8 to 14, 16, 17, 20 to 22: below, at and above each boundary. */
public final class TableEdgesTest {
    private static final Due DUE = new Due("TableEdgesTest");
    private static final long TWO_32 = 1L << 32;

    public static void main(String[] args) {
        routeWidths();
        routeRanges();
        sixteenRoutes();
        greatestWidth();
        latestOfOneWidth();
        tunnels();
        policyWidths();
        policyRanges();
        twentyFourPolicies();
        firstOfItsWay();
        policyKinds();
        policyDoors();
        anyDoors();
        meantRanges();
        meantOnce();
        meaningOfBroken();
        sealRanges();
        sixteenSeals();
        namesOfTheWayIn();
        toldOfSeals();
        stopping();
        counting();
        DUE.finish();
    }

    // ---- routes

    /** A NET: the addresses that are the same in so many highest bits. */
    private static void routeWidths() {
        for (int address : new int[] {0, -1, 0x5A5A5A5A, 0xA5A5A5A5, Integer.MIN_VALUE, Integer.MAX_VALUE}) {
            for (int width = 0; width <= 32; width++) {
                Gate g = new Gate(1);
                g.route(address, width, 1);
                DUE.is("itself, width " + width, g.routed(address), 1);
                for (int bit = 0; bit < 32; bit++) {
                    boolean isInside = bit < 32 - width;
                    DUE.is("width " + width + ", bit " + bit + " another", g.routed(address ^ 1 << bit), isInside ? 1 : -1);
                }
                DUE.is("all lower bits others", g.routed((int) (address ^ (TWO_32 - 1 >>> width))), 1);
            }
        }
        DUE.is("routed without routes", new Gate(1).routed(0), -1);
    }

    /** width is not 0 .. 32, or port not 0, 1. */
    private static void routeRanges() {
        for (int port = 0; port <= 1; port++) {
            for (int width : new int[] {0, 1, 31, 32}) {
                Gate g = new Gate(1);
                DUE.is("route of width " + width + ", port " + port, g.route(7, width, port), 1);
                DUE.is("its port", g.routed(7), port);
            }
        }
        Gate g = new Gate(1);
        for (int width : new int[] {-1, 33}) {
            DUE.argument("route of width " + width, () -> g.route(7, width, 0));
        }
        for (int port : new int[] {-1, 2}) {
            DUE.argument("route of port " + port, () -> g.route(7, 0, port));
        }
        DUE.is("none came of it", g.routed(7), -1);
        DUE.is("none is counted", g.route(7, 0, 0), 1);
    }

    /** ROUTES, 16 at most. */
    private static void sixteenRoutes() {
        Gate g = new Gate(1);
        for (int n = 1; n <= 16; n++) {
            DUE.is("route " + n, g.route(n, 32, n & 1), n);
        }
        DUE.state("route 17", () -> g.route(17, 32, 1));
        DUE.state("route 17 of a net that is there", () -> g.route(1, 32, 0));
        for (int n = 1; n <= 16; n++) {
            DUE.is("routed(" + n + ")", g.routed(n), n & 1);
        }
        DUE.is("routed(17)", g.routed(17), -1);
        g.clear();
        DUE.is("room again", g.route(1, 32, 1), 1);
        DUE.is("an old one", g.routed(2), -1);
    }

    /** The route of an address is that of the greatest WIDTH whose NET has it. */
    private static void greatestWidth() {
        for (int width = 0; width < 32; width++) {
            for (int port = 0; port <= 1; port++) {
                Gate rising = new Gate(1);
                rising.route(0x12345678, width, 1 - port);
                rising.route(0x12345678, width + 1, port);
                DUE.is("the wider one behind", rising.routed(0x12345678), port);
                Gate falling = new Gate(1);
                falling.route(0x12345678, width + 1, port);
                falling.route(0x12345678, width, 1 - port);
                DUE.is("the wider one before", falling.routed(0x12345678), port);
                DUE.is("only the other has it", falling.routed(0x12345678 ^ Integer.MIN_VALUE >>> width), 1 - port);
            }
        }
    }

    /** .. of several the latest one. */
    private static void latestOfOneWidth() {
        for (int width : new int[] {0, 1, 8, 31, 32}) {
            Gate g = new Gate(1);
            for (int n = 0; n < 8; n++) {
                g.route(0x12345678, width, n & 1);
                DUE.is("the latest of " + (n + 1), g.routed(0x12345678), n & 1);
            }
        }
    }

    /** TUNNELS 0 .. 3 have a PEER (an address, 0 at first); a tunnel's PEER is another one: who it was. */
    private static void tunnels() {
        Gate g = new Gate(1);
        for (int t : new int[] {-1, 4, Integer.MIN_VALUE, Integer.MAX_VALUE}) {
            DUE.index("peer(" + t + ")", () -> g.peer(t, 9));
        }
        int[] rows = {0, -1, Integer.MIN_VALUE, Integer.MAX_VALUE};
        for (int t = 0; t < 4; t++) {
            DUE.is("0 at first", g.peer(t, rows[t]), 0);
        }
        for (int t = 3; t >= 0; t--) {
            DUE.is("peer(" + t + ")", g.peer(t, 5), rows[t]);
        }
    }

    // ---- policies

    private static int meaning(Gate g, int way, int from, int to) {
        g.make(from, to, 1, 9, 0, 0);
        return g.meaning(way);
    }

    /** Nets of from whom and to whom. */
    private static void policyWidths() {
        for (int width = 0; width <= 32; width++) {
            for (int way = 0; way <= 1; way++) {
                Gate from = new Gate(1);
                from.policy(way, 0xA5A5A5A5, width, 7, 32, -1);
                Gate to = new Gate(1);
                to.policy(way, 7, 32, 0xA5A5A5A5, width, -1);
                for (int bit = 0; bit < 32; bit++) {
                    int want = bit < 32 - width ? 0 : -1;
                    int other = 0xA5A5A5A5 ^ 1 << bit;
                    DUE.is("from, width " + width + ", bit " + bit, meaning(from, way, other, 7), want);
                    DUE.is("to, width " + width + ", bit " + bit, meaning(to, way, 7, other), want);
                }
                DUE.is("from itself", meaning(from, way, 0xA5A5A5A5, 7), 0);
                DUE.is("to itself", meaning(to, way, 7, 0xA5A5A5A5), 0);
                DUE.is("from itself, to another", meaning(from, way, 0xA5A5A5A5, 6), -1);
                DUE.is("to itself, from another", meaning(to, way, 6, 0xA5A5A5A5), -1);
                DUE.is("another way", meaning(from, 1 - way, 0xA5A5A5A5, 7), -1);
            }
        }
    }

    /** way is not 0, 1, a width not 0 .. 32, or done not -2 .. 3. */
    private static void policyRanges() {
        Gate g = new Gate(1);
        int n = 0;
        for (int done = -2; done <= 3; done++) {
            DUE.is("done " + done, g.policy(0, 0, 0, 0, 0, done), ++n);
            DUE.is("done " + done + ", way in", g.policy(1, 0, 32, 0, 32, done), ++n);
        }
        for (int e : new int[] {-1, 2}) {
            DUE.argument("way " + e, () -> g.policy(e, 0, 0, 0, 0, 0));
        }
        for (int e : new int[] {-1, 33}) {
            DUE.argument("from width " + e, () -> g.policy(0, 0, e, 0, 0, 0));
            DUE.argument("to width " + e, () -> g.policy(0, 0, 0, 0, e, 0));
        }
        for (int e : new int[] {-3, 4}) {
            DUE.argument("done " + e, () -> g.policy(0, 0, 0, 0, 0, e));
        }
        DUE.is("none is counted", g.policy(0, 0, 0, 0, 0, 0), n + 1);
    }

    /** POLICIES, 24 at most. */
    private static void twentyFourPolicies() {
        Gate g = new Gate(1);
        for (int n = 1; n <= 24; n++) {
            DUE.is("policy " + n, g.policy(n & 1, n, 32, 0, 0, -1), n);
        }
        DUE.state("policy 25", () -> g.policy(0, 25, 32, 0, 0, -1));
        DUE.state("policy 25 of the way in", () -> g.policy(1, 25, 32, 0, 0, -1));
        for (int n = 1; n <= 24; n++) {
            DUE.is("place of " + n, meaning(g, n & 1, n, 0), n - 1);
        }
        g.route(0, 0, 1);
        g.make(24, 0, 1, 9, 0, 0);
        DUE.is("the last one of the way out is done", g.come(0), 0);
        g.route(0, 32, 0);
        g.make(23, 0, 1, 9, 0, 0);
        DUE.is("the last one of the way in is done", g.come(1), 0);
        DUE.is("no place", meaning(g, 0, 25, 0), -1);
        DUE.is("no place of the way in", meaning(g, 1, 25, 0), -1);
        for (int way = 0; way <= 1; way++) {
            lastPolicy(way);
        }
        g.clear();
        DUE.is("room again", g.policy(0, 1, 32, 0, 0, -1), 1);
        DUE.is("an old one", meaning(g, 0, 2, 0), -1);
    }

    /** The 24th is done as any other one. */
    private static void lastPolicy(int way) {
        Gate g = new Gate(1);
        g.route(0, 0, 1 - way);
        for (int n = 1; n < 24; n++) {
            g.policy(way, n, 32, 0, 0, -2);
        }
        g.make(24, 0, 1, 9, 0, 0);
        DUE.is("without it, way " + way, g.come(way), way == 0 ? 4 : 16);
        DUE.is("policy 24", g.policy(way, 24, 32, 0, 0, -1), 24);
        DUE.is("with it, way " + way, g.come(way), 0);
    }

    /** A packet's policy is the first one of its WAY that means it. */
    private static void firstOfItsWay() {
        Gate g = new Gate(1);
        g.route(0, 0, 1);
        g.policy(1, 0, 0, 0, 0, -2);
        g.policy(0, 7, 32, 0, 0, -2);
        g.policy(0, 0, 0, 0, 0, -1);
        g.policy(0, 8, 32, 0, 0, -2);
        DUE.is("the first of 7", meaning(g, 0, 7, 0), 1);
        DUE.is("is done", g.come(0), 4);
        DUE.is("the first of 8", meaning(g, 0, 8, 0), 2);
        DUE.is("is done", g.come(0), 0);
        DUE.is("of the way in", meaning(g, 1, 8, 0), 0);
    }

    /** A KIND (0 any). */
    private static void policyKinds() {
        for (int kind : new int[] {0, 1, 127, 128, 254, 255}) {
            Gate g = new Gate(1);
            g.meant(kind, 0, 65535);
            g.policy(0, 0, 0, 0, 0, -1);
            for (int its = 0; its < 256; its++) {
                g.make(1, 2, its, 9, 0, 0);
                DUE.is("kind " + its + " of " + kind, g.meaning(0), kind == 0 || its == kind ? 0 : -1);
            }
        }
    }

    private static int meaningOfDoor(Gate g, int door) {
        g.make(1, 2, 17, 9, 4, 0);
        g.poke(22, door >> 8);
        g.poke(23, door & 255);
        return g.meaning(0);
    }

    /** DOORS from one to another one, 0 .. 65535; a packet without a door is not meant. */
    private static void policyDoors() {
        int[][] rows = {{0, 0}, {1, 1}, {80, 90}, {255, 256}, {0x7FFF, 0x8000}, {65535, 65535}, {0, 65534}, {1, 65535}};
        for (int[] row : rows) {
            Gate g = new Gate(1);
            g.meant(0, row[0], row[1]);
            g.policy(0, 0, 0, 0, 0, -1);
            for (int edge : row) {
                for (int door = Math.max(0, edge - 1); door <= Math.min(65535, edge + 1); door++) {
                    boolean isMeant = door >= row[0] && door <= row[1];
                    DUE.is("door " + door + " of " + row[0] + " to " + row[1], meaningOfDoor(g, door), isMeant ? 0 : -1);
                }
            }
            g.make(1, 2, 17, 9, 3, 0);
            DUE.is("no door of 3 bytes", g.meaning(0), -1);
            g.make(1, 2, 18, 9, 4, 0);
            DUE.is("no door of kind 18", g.meaning(0), -1);
        }
    }

    /** 0 to 65535: any, also none. */
    private static void anyDoors() {
        Gate g = new Gate(1);
        g.meant(0, 0, 65535);
        g.policy(0, 0, 0, 0, 0, -1);
        for (int door : new int[] {0, 1, 65534, 65535}) {
            DUE.is("any door, " + door, meaningOfDoor(g, door), 0);
        }
        for (int n = 0; n < 4; n++) {
            g.make(1, 2, 17, 9, n, 0);
            DUE.is("no door of " + n + " bytes", g.meaning(0), 0);
        }
        g.make(1, 2, 17, 9, 4, 0);
        g.poke(6, 0x20);
        g.sum();
        DUE.is("no door of a PART", g.meaning(0), 0);
        Gate kind = new Gate(1);
        kind.meant(17, 0, 65535);
        kind.policy(0, 0, 0, 0, 0, -1);
        kind.make(1, 2, 17, 9, 0, 0);
        DUE.is("no door, its kind", kind.meaning(0), 0);
        kind.make(1, 2, 6, 9, 0, 0);
        DUE.is("no door, another kind", kind.meaning(0), -1);
    }

    /** kind is not 0 .. 255, or not 0 <= low <= high <= 65535. */
    private static void meantRanges() {
        Gate g = new Gate(1);
        int[][] good = {{0, 0, 0}, {255, 0, 0}, {0, 0, 65535}, {0, 65535, 65535}, {1, 7, 7}, {1, 7, 8}};
        for (int[] row : good) {
            g.meant(row[0], row[1], row[2]);
        }
        int[][] wrong = {{-1, 0, 0}, {256, 0, 0}, {0, -1, 0}, {0, -1, -1}, {0, 0, 65536}, {0, 65536, 65536}, {1, 8, 7},
            {0, 65535, 0}, {0, 0, -1}, {0, Integer.MIN_VALUE, 5}, {0, 5, Integer.MAX_VALUE}, {-1, -1, -1}};
        for (int[] row : wrong) {
            DUE.argument("meant(" + row[0] + ", " + row[1] + ", " + row[2] + ")", () -> g.meant(row[0], row[1], row[2]));
        }
        g.policy(0, 0, 0, 0, 0, -1);
        g.make(1, 2, 1, 9, 4, 0);
        DUE.is("the last good one counts: a door is asked for", g.meaning(0), -1);
        g.make(1, 2, 17, 9, 4, 0);
        DUE.is("the last good one counts: kind 1", g.meaning(0), -1);
    }

    /** The policy that is told next has this (at first, and behind each policy: any); a refused one is not told. */
    private static void meantOnce() {
        Gate g = new Gate(1);
        g.policy(0, 1, 32, 0, 0, -1);
        g.meant(17, 3, 3);
        g.meant(6, 515, 515);
        DUE.argument("a policy that is refused", () -> g.policy(0, 2, 33, 0, 0, -1));
        g.policy(0, 2, 32, 0, 0, -1);
        g.policy(0, 3, 32, 0, 0, -1);
        int[][] want = {{0, 0, 0}, {1, -1, -1}, {2, 2, 2}};
        for (int from = 1; from <= 3; from++) {
            g.make(from, 9, 6, 9, 4, 0);
            DUE.is("kind 6, door 515, from " + from, g.meaning(0), want[from - 1][0]);
            g.make(from, 9, 6, 9, 4, 1);
            DUE.is("kind 6, another door, from " + from, g.meaning(0), want[from - 1][1]);
            g.make(from, 9, 17, 9, 4, 0);
            DUE.is("kind 17, door 515, from " + from, g.meaning(0), want[from - 1][2]);
        }
        Gate full = new Gate(1);
        for (int n = 0; n < 24; n++) {
            full.policy(1, 0, 0, 0, 0, -1);
        }
        full.meant(6, 1, 1);
        DUE.state("policy 25", () -> full.policy(0, 0, 0, 0, 0, -1));
        full.clear();
        full.policy(0, 0, 0, 0, 0, -1);
        DUE.is("any behind clear", meaning(full, 0, 1, 2), 0);
    }

    /** meaning: NONE without, or when they are BROKEN; way is not 0, 1. */
    private static void meaningOfBroken() {
        Gate g = new Gate(1);
        g.policy(0, 0, 0, 0, 0, -2);
        g.policy(1, 0, 0, 0, 0, -2);
        DUE.is("an empty tape", g.meaning(0), -1);
        DUE.is("hops 0 are no matter", meaningOfHops(g, 0), 0);
        DUE.is("way in", g.meaning(1), 1);
        g.poke(10, g.at(10) ^ 1);
        DUE.is("BROKEN", g.meaning(0), -1);
        DUE.is("BROKEN, way in", g.meaning(1), -1);
        DUE.argument("meaning(2) of BROKEN", () -> g.meaning(2));
        DUE.argument("meaning(-1) of BROKEN", () -> g.meaning(-1));
        g.sum();
        DUE.is("right again", g.meaning(1), 1);
    }

    private static int meaningOfHops(Gate g, int hops) {
        g.make(1, 2, 3, hops, 0, 0);
        return g.meaning(0);
    }

    // ---- seals

    private static Gate sealed(int way, boolean isLong, int life) {
        Gate g = new Gate(1);
        g.seal(way, 0, 300, 1, 2, isLong, life);
        return g;
    }

    /** No such tunnel; way is not 0, 1, name below 256, or life not 1 .. 1000000. */
    private static void sealRanges() {
        for (int way = 0; way <= 1; way++) {
            int its = way;
            Gate g = new Gate(1);
            int n = 0;
            for (int tunnel = 0; tunnel <= 3; tunnel++) {
                DUE.is("tunnel " + tunnel, g.seal(way, tunnel, 1000 + tunnel, 1, 2, false, 9), n++);
            }
            for (int name : new int[] {256, 257, Integer.MAX_VALUE - 1, Integer.MAX_VALUE}) {
                DUE.is("name " + name, g.seal(way, 0, name, 1, 2, false, 9), n);
                DUE.is("told", g.told(n++, 2), name);
            }
            for (int life : new int[] {1, 2, 999999, 1000000}) {
                DUE.is("life " + life, g.seal(way, 0, 2000 + n, 1, 2, false, life), n);
                DUE.is("told", g.told(n++, 3), life);
            }
            for (int tunnel : new int[] {-1, 4}) {
                DUE.index("tunnel " + tunnel, () -> g.seal(its, tunnel, 3000, 1, 2, false, 9));
            }
            for (int name : new int[] {255, 0, -1, Integer.MIN_VALUE}) {
                DUE.argument("name " + name, () -> g.seal(its, 0, name, 1, 2, false, 9));
            }
            for (int life : new int[] {0, -1, 1000001}) {
                DUE.argument("life " + life, () -> g.seal(its, 0, 3000, 1, 2, false, life));
            }
            for (int other : new int[] {-1, 2}) {
                DUE.argument("way " + other, () -> g.seal(other, 0, 3000, 1, 2, false, 9));
            }
            DUE.is("none is counted", g.ended(18), n);
            DUE.is("the next number", g.seal(way, 0, 3000, 1, 2, false, 9), n);
        }
    }

    /** SEALS, 16 at most, numbered in order. */
    private static void sixteenSeals() {
        Gate g = new Gate(1);
        for (int n = 0; n < 16; n++) {
            DUE.is("seal " + n, g.seal(n & 1, n & 3, 500 + n, n, n, (n & 2) != 0, 1 + n), n);
            DUE.is("ended(18)", g.ended(18), n + 1);
        }
        DUE.state("seal 16 out", () -> g.seal(0, 0, 999, 1, 1, false, 9));
        DUE.state("seal 16 in", () -> g.seal(1, 0, 999, 1, 1, false, 9));
        for (int n = 0; n < 16; n++) {
            int[] want = {n & 1, n & 3, 500 + n, 1 + n, 0, (n & 2) >> 1};
            for (int what = 0; what < 6; what++) {
                DUE.is("told(" + n + ", " + what + ")", g.told(n, what), want[what]);
            }
        }
        g.stop(3);
        DUE.state("a stopped one is still there", () -> g.seal(0, 0, 999, 1, 1, false, 9));
        g.clear();
        DUE.is("room again", g.seal(1, 0, 501, 1, 1, false, 9), 0);
    }

    /** Of those of the way in no two have the same NAME; a seal of the way in has that name. */
    private static void namesOfTheWayIn() {
        Gate g = new Gate(1);
        DUE.is("out", g.seal(0, 0, 256, 1, 2, false, 9), 0);
        DUE.is("out, the same", g.seal(0, 0, 256, 1, 2, false, 9), 1);
        DUE.is("in, the same as out", g.seal(1, 0, 256, 1, 2, false, 9), 2);
        DUE.state("in, the same as in", () -> g.seal(1, 0, 256, 1, 2, false, 9));
        DUE.state("in, the same, all else another", () -> g.seal(1, 3, 256, 7, 8, true, 1));
        DUE.is("in, one more", g.seal(1, 0, 257, 1, 2, false, 9), 3);
        DUE.is("in, the lowest byte alone is the same", g.seal(1, 0, 257 + 256, 1, 2, false, 9), 4);
        g.stop(2);
        DUE.state("in, the same as a stopped one", () -> g.seal(1, 0, 256, 1, 2, false, 9));
        DUE.is("none is counted", g.ended(18), 5);
    }

    /** told: what = 0 .. 5. */
    private static void toldOfSeals() {
        Gate g = sealed(1, true, 1000000);
        int[] want = {1, 0, 300, 1000000, 0, 1};
        for (int what = 0; what < 6; what++) {
            DUE.is("told(0, " + what + ")", g.told(0, what), want[what]);
        }
        for (int what : new int[] {-1, 6}) {
            DUE.index("told(0, " + what + ")", () -> g.told(0, what));
        }
        for (int seal : new int[] {-1, 1}) {
            DUE.index("told(" + seal + ", 0)", () -> g.told(seal, 0));
            DUE.index("top(" + seal + ")", () -> g.top(seal));
            DUE.index("seen(" + seal + ")", () -> g.seen(seal));
        }
        DUE.is("TOP 0 at first", g.top(0), 0);
        DUE.is("nothing SEEN at first", g.seen(0), 0);
    }

    /** A seal is stopped: whether it was not DEAD; DEAD when it was stopped, or its LIFE is 0. */
    private static void stopping() {
        for (int way = 0; way <= 1; way++) {
            Gate g = sealed(way, false, 2);
            g.count(0, 5);
            DUE.is("alive", g.told(0, 4), 0);
            DUE.is("stop", g.stop(0), true);
            DUE.is("DEAD", g.told(0, 4), 1);
            DUE.is("stop again", g.stop(0), false);
            DUE.is("its LIFE", g.told(0, 3), 2);
            DUE.is("its number", g.top(0), 5);
            DUE.is("its number can be another", g.count(0, 6), 5);
            DUE.is("still DEAD", g.told(0, 4), 1);
            for (int seal : new int[] {-1, 1}) {
                DUE.index("stop(" + seal + ")", () -> g.stop(seal));
            }
        }
        Gate g = sealed(0, false, 1);
        g.route(0, 0, 1);
        g.policy(0, 0, 0, 0, 0, 0);
        g.make(1, 2, 3, 9, 0, 0);
        DUE.is("LIFE 1", g.come(0), 0);
        DUE.is("LIFE 0", g.told(0, 3), 0);
        DUE.is("DEAD without a stop", g.told(0, 4), 1);
        DUE.is("stop of a DEAD one", g.stop(0), false);
    }

    /** The COUNTER, or TOP, is another number: below 0, or, not LONG, above 2^32 - 1. */
    private static void counting() {
        long[] good = {0, 1, 63, 64, TWO_32 - 2, TWO_32 - 1};
        long[] onlyLong = {TWO_32, TWO_32 + 1, Long.MAX_VALUE - 1, Long.MAX_VALUE};
        for (int way = 0; way <= 1; way++) {
            for (boolean isLong : new boolean[] {false, true}) {
                Gate g = sealed(way, isLong, 7);
                long was = 0;
                for (long number : good) {
                    DUE.is("count(0, " + number + ")", g.count(0, number), was);
                    DUE.is("top", g.top(0), number);
                    DUE.is("just that is SEEN, if it is not 0", g.seen(0), way == 1 && number != 0 ? 1 : 0);
                    was = number;
                }
                for (long number : onlyLong) {
                    if (isLong) {
                        DUE.is("count(0, " + number + "), LONG", g.count(0, number), was);
                        was = number;
                    } else {
                        DUE.argument("count(0, " + number + "), not LONG", () -> g.count(0, number));
                    }
                    DUE.is("top", g.top(0), was);
                }
                for (long number : new long[] {-1, Long.MIN_VALUE}) {
                    DUE.argument("count(0, " + number + ")", () -> g.count(0, number));
                }
                DUE.index("count(1, 0)", () -> g.count(1, 0));
                DUE.index("count(-1, 0)", () -> g.count(-1, 0));
                DUE.is("back to 0", g.count(0, 0), was);
                DUE.is("0 is not SEEN", g.seen(0), 0);
                DUE.is("LIFE stays", g.told(0, 3), 7);
            }
        }
    }
}
