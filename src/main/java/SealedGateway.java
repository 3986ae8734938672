import java.util.Arrays;

/** A gateway between an inner and an outer network; ../shared/DOC.md says what it promises. */
public final class SealedGateway {
    public static final int NONE = -1;

    private static final int INNER = 0;
    private static final int OUTER = 1;
    private static final int OUT = 0;
    private static final int IN = 1;

    private static final int DISCARD = -2;
    private static final int BYPASS = -1;

    private static final int SENT = 0;
    private static final int BROKEN = 1;
    private static final int NO_HOPS = 2;
    private static final int NO_ROUTE = 3;
    private static final int NOT_LET_OUT = 4;
    private static final int NO_SEAL = 5;
    private static final int TOO_MUCH = 6;
    private static final int KEPT = 7;
    private static final int MISSHAPEN = 8;
    private static final int UNKNOWN_SEAL = 9;
    private static final int OLD = 10;
    private static final int SEEN_BEFORE = 11;
    private static final int OTHER_STAMP = 12;
    private static final int WRONG_TEXT = 13;
    private static final int EMPTY_TEXT = 14;
    private static final int BROKEN_INSIDE = 15;
    private static final int NOT_LET_IN = 16;
    private static final int WRONG_PART = 17;
    private static final int REASONS = 18;

    private static final int ASK_SEALS = 18;
    private static final int ASK_SEALED = 19;
    private static final int ASK_HEAPS = 20;
    private static final int ASK_PORT = -2;

    private static final int TAPE_LIMIT = 2000;
    private static final int CONTENT_LIMIT = 1480;
    private static final int SEND_LIMIT = 1500;
    private static final int TUNNELS = 4;
    private static final int SEALS = 16;
    private static final int LIFE_LIMIT = 1000000;
    private static final int LOWEST_NAME = 256;
    private static final int SEALED_KIND = 50;
    private static final int SEALED_HOPS = 64;
    private static final int TEXT_IS_PACKET = 4;
    private static final int TEXT_IS_EMPTY = 59;

    private final int own;
    private final Packet tape = new Packet();
    // The packet that comes, and what it becomes when it is sealed or opened.
    private final Packet coming = new Packet();
    private final Packet remade = new Packet();
    private final Packet sentFirst = new Packet();
    private final Packet sentSecond = new Packet();
    private int sentPort = NONE;
    private final Routes routes = new Routes();
    private final Policies policies = new Policies();
    private final int[] peers = new int[TUNNELS];
    private final Seal[] seals = new Seal[SEALS];
    private int sealsUsed;
    private int packetsSealed;
    private final Heaps heaps = new Heaps();
    private final Log entries = new Log();
    private final int[] endings = new int[REASONS];

    public SealedGateway(int own) {
        this.own = own;
    }

    // ---- the tape

    public int type(long bytes) throws IllegalStateException {
        int size = tape.size();
        if (size + 8 > TAPE_LIMIT) {
            throw new IllegalStateException("the tape is full");
        }
        tape.resize(size + 8);
        tape.setLong(size, bytes);
        return tape.size();
    }

    public void keep(int n) throws IllegalArgumentException {
        if (n < 0 || n > tape.size()) {
            throw new IllegalArgumentException("the tape has not so many bytes");
        }
        tape.resize(n);
    }

    public int poke(int k, int b) throws IndexOutOfBoundsException, IllegalArgumentException {
        int was = at(k);
        if (!isByte(b)) {
            throw new IllegalArgumentException("no byte");
        }
        tape.setByte(k, b);
        return was;
    }

    public int at(int k) throws IndexOutOfBoundsException {
        if (k < 0 || k >= tape.size()) {
            throw new IndexOutOfBoundsException("no such byte");
        }
        return tape.byteAt(k);
    }

    public int make(int from, int to, int kind, int hops, int n, int number) throws IllegalArgumentException {
        if (!isByte(kind) || !isByte(hops) || n < 0 || n > CONTENT_LIMIT) {
            throw new IllegalArgumentException("no such packet");
        }
        tape.resize(Packet.HEAD + n);
        tape.writeHead(from, to, kind, hops);
        for (int k = 0; k < n; k++) {
            tape.setByte(Packet.HEAD + k, k + number);
        }
        tape.mendSum();
        return tape.size();
    }

    public int sum() throws IllegalStateException {
        if (tape.size() < Packet.HEAD) {
            throw new IllegalStateException("the tape has no head");
        }
        return tape.mendSum();
    }

    // ---- the tables

    public int route(int address, int width, int port) throws IllegalArgumentException, IllegalStateException {
        if (!isWidth(width) || !isPortOrWay(port)) {
            throw new IllegalArgumentException("no such route");
        }
        if (routes.isFull()) {
            throw new IllegalStateException("there are 16 routes");
        }
        return routes.append(new Net(address, width), port);
    }

    public int peer(int tunnel, int address) throws IndexOutOfBoundsException {
        if (!isTunnel(tunnel)) {
            throw new IndexOutOfBoundsException("no such tunnel");
        }
        int was = peers[tunnel];
        peers[tunnel] = address;
        return was;
    }

    public void meant(int kind, int low, int high) throws IllegalArgumentException {
        if (!isByte(kind) || low < 0 || low > high || high > Policies.HIGHEST_DOOR) {
            throw new IllegalArgumentException("no such kind or doors");
        }
        policies.nextMeans(kind, low, high);
    }

    public int policy(int way, int from, int fromWidth, int to, int toWidth, int done)
            throws IllegalArgumentException, IllegalStateException {
        if (!isPortOrWay(way) || !isWidth(fromWidth) || !isWidth(toWidth) || done < DISCARD || done >= TUNNELS) {
            throw new IllegalArgumentException("no such policy");
        }
        if (policies.isFull()) {
            throw new IllegalStateException("there are 24 policies");
        }
        return policies.append(way, new Net(from, fromWidth), new Net(to, toWidth), done);
    }

    public int seal(int way, int tunnel, int name, long key, long stampKey, boolean isLong, int life)
            throws IndexOutOfBoundsException, IllegalArgumentException, IllegalStateException {
        if (!isTunnel(tunnel)) {
            throw new IndexOutOfBoundsException("no such tunnel");
        }
        if (!isPortOrWay(way) || name < LOWEST_NAME || life < 1 || life > LIFE_LIMIT) {
            throw new IllegalArgumentException("no such way, name or life");
        }
        if (sealsUsed < 0 || sealsUsed >= SEALS || sealNamed(name) != null) {
            throw new IllegalStateException("there are 16 seals, or one of the way in has that name");
        }
        seals[sealsUsed] = new Seal(way, tunnel, name, key, stampKey, isLong, life);
        return sealsUsed++;
    }

    public boolean stop(int seal) throws IndexOutOfBoundsException {
        Seal stopped = sealAt(seal);
        boolean wasAlive = !stopped.isDead();
        stopped.end();
        return wasAlive;
    }

    public long count(int seal, long number) throws IndexOutOfBoundsException, IllegalArgumentException {
        Seal counted = sealAt(seal);
        if (number < 0 || number > counted.lastNumber()) {
            throw new IllegalArgumentException("no such number");
        }
        long was = counted.counter();
        counted.countFrom(number);
        return was;
    }

    // ---- packets come

    public int come(int port) throws IllegalArgumentException {
        if (!isPortOrWay(port)) {
            throw new IllegalArgumentException("no such port");
        }
        coming.copy(tape);
        int reason = port == INNER ? throughInner() : throughOuter();
        if (reason >= 0 && reason < endings.length) {
            endings[reason]++;
        }
        return reason;
    }

    public int meaning(int way) throws IllegalArgumentException {
        if (!isPortOrWay(way)) {
            throw new IllegalArgumentException("no such way");
        }
        coming.copy(tape);
        if (coming.isBroken()) {
            return NONE;
        }
        coming.cutToLength();
        return policies.placeFor(way, coming);
    }

    public int routed(int address) {
        return routes.portOf(address);
    }

    // ---- what was sent

    public int sent(int packet, int k) throws IndexOutOfBoundsException {
        Packet last = sentPacket(packet);
        if (k == NONE) {
            return last.size();
        }
        if (k == ASK_PORT) {
            return last.size() == 0 ? NONE : sentPort;
        }
        if (k < 0 || k >= last.size()) {
            throw new IndexOutOfBoundsException("no such byte");
        }
        return last.byteAt(k);
    }

    public int take(int packet) throws IndexOutOfBoundsException, IllegalStateException {
        Packet last = sentPacket(packet);
        if (last.size() == 0) {
            throw new IllegalStateException("no such packet was sent");
        }
        tape.copy(last);
        return tape.size();
    }

    // ---- what is told

    public int told(int seal, int what) throws IndexOutOfBoundsException {
        Seal asked = sealAt(seal);
        switch (what) {
            case 0:
                return asked.way();
            case 1:
                return asked.tunnel();
            case 2:
                return asked.name();
            case 3:
                return asked.life();
            case 4:
                return asked.isDead() ? 1 : 0;
            case 5:
                return asked.isLong() ? 1 : 0;
            default:
                throw new IndexOutOfBoundsException("nothing such is told of a seal");
        }
    }

    public long top(int seal) throws IndexOutOfBoundsException {
        return sealAt(seal).counter();
    }

    public long seen(int seal) throws IndexOutOfBoundsException {
        return sealAt(seal).seenBits();
    }

    public int tick() {
        return heaps.hearTick();
    }

    public int log(int k, int what) throws IndexOutOfBoundsException {
        if (k < 0 || k >= entries.size() || what < 0 || what >= Log.WIDTH) {
            throw new IndexOutOfBoundsException("nothing such is in the log");
        }
        return entries.cell(k, what);
    }

    public int ended(int reason) throws IndexOutOfBoundsException {
        if (reason >= 0 && reason < endings.length) {
            return endings[reason];
        }
        switch (reason) {
            case ASK_SEALS:
                return sealsUsed;
            case ASK_SEALED:
                return packetsSealed;
            case ASK_HEAPS:
                return heaps.size();
            default:
                throw new IndexOutOfBoundsException("no such reason");
        }
    }

    public void clear() {
        tape.resize(0);
        sentFirst.resize(0);
        sentSecond.resize(0);
        sentPort = NONE;
        routes.empty();
        policies.empty();
        Arrays.fill(peers, 0);
        sealsUsed = 0;
        packetsSealed = 0;
        heaps.empty();
        entries.empty();
        Arrays.fill(endings, 0);
    }

    // ---- through the inner port

    private int throughInner() {
        if (coming.isBroken()) {
            return BROKEN;
        }
        coming.cutToLength();
        if (coming.hops() <= 1) {
            return NO_HOPS;
        }
        if (routes.portOf(coming.to()) != OUTER) {
            return NO_ROUTE;
        }
        int done = policies.doneWith(OUT, coming);
        if (done == DISCARD) {
            return NOT_LET_OUT;
        }
        return done == BYPASS ? passOn(coming, OUTER) : sealInto(done);
    }

    private int sealInto(int tunnel) {
        Seal seal = latestUsable(tunnel);
        if (seal == null) {
            return NO_SEAL;
        }
        remade.resize(seal.sealedSize(coming));
        remade.writeHead(own, peerOf(tunnel), SEALED_KIND, SEALED_HOPS);
        remade.takeOver(coming, packetsSealed);
        if (remade.isTooMuch()) {
            return TOO_MUCH;
        }
        coming.loseHop();
        seal.close(coming, remade);
        remade.mendSum();
        packetsSealed++;
        send(remade, OUTER);
        return SENT;
    }

    private Seal latestUsable(int tunnel) {
        for (int k = Math.min(sealsUsed, SEALS) - 1; k >= 0; k--) {
            Seal seal = seals[k];
            if (seal != null && seal.canClose(tunnel)) {
                return seal;
            }
        }
        return null;
    }

    // ---- through the outer port

    private int throughOuter() {
        if (coming.isBroken()) {
            return BROKEN;
        }
        coming.cutToLength();
        if (coming.kind() != SEALED_KIND || coming.to() != own) {
            return letIn(coming, BYPASS, 0, 0);
        }
        if (coming.isPart()) {
            if (!heaps.accept(coming)) {
                return WRONG_PART;
            }
            if (!heaps.giveWhole(coming)) {
                return KEPT;
            }
        }
        if (!Seal.hasShape(coming)) {
            return MISSHAPEN;
        }
        int name = Seal.nameIn(coming);
        int low = Seal.lowNumberIn(coming);
        Seal seal = sealNamed(name);
        int reason = unseal(seal, low);
        if (reason >= UNKNOWN_SEAL && reason <= OTHER_STAMP) {
            entries.note(reason, coming, name, low);
        }
        return seal == null || reason != SENT ? reason : letIn(remade, seal.tunnel(), name, low);
    }

    /** SENT when the packet inside stands in remade. */
    private int unseal(Seal seal, int low) {
        if (seal == null || seal.isDead() || coming.from() != peerOf(seal.tunnel())) {
            return UNKNOWN_SEAL;
        }
        long number = seal.wholeNumber(low);
        if (seal.isOld(number)) {
            return OLD;
        }
        if (seal.wasSeen(number)) {
            return SEEN_BEFORE;
        }
        if (!seal.fitsStamp(coming, number)) {
            return OTHER_STAMP;
        }
        seal.accept(number);
        seal.open(coming, remade, number);
        return uncover(remade);
    }

    /** Leaves of an opened text the packet in it. */
    private static int uncover(Packet text) {
        int last = text.byteAt(text.size() - 1);
        int fill = text.byteAt(text.size() - 2);
        int size = text.size() - 2 - fill;
        if (size < 0 || !text.countsUp(size, fill)) {
            return WRONG_TEXT;
        }
        if (last != TEXT_IS_PACKET) {
            return last == TEXT_IS_EMPTY ? EMPTY_TEXT : WRONG_TEXT;
        }
        text.resize(size);
        return text.isBroken() || text.length() != size ? BROKEN_INSIDE : SENT;
    }

    private int letIn(Packet packet, int allowed, int name, int low) {
        if (policies.doneWith(IN, packet) != allowed) {
            entries.note(NOT_LET_IN, packet, name, low);
            return NOT_LET_IN;
        }
        if (packet.hops() <= 1) {
            return NO_HOPS;
        }
        if (routes.portOf(packet.to()) != INNER) {
            return NO_ROUTE;
        }
        return passOn(packet, INNER);
    }

    // ---- sending

    private int passOn(Packet packet, int port) {
        if (packet.isTooMuch()) {
            return TOO_MUCH;
        }
        packet.loseHop();
        send(packet, port);
        return SENT;
    }

    private void send(Packet packet, int port) {
        sentPort = port;
        if (packet.size() <= SEND_LIMIT) {
            sentFirst.copy(packet);
            sentSecond.resize(0);
            return;
        }
        sentFirst.becomePart(packet, 0, Packet.PART_CONTENT);
        sentFirst.setMore();
        sentFirst.mendSum();
        sentSecond.becomePart(packet, Packet.PART_CONTENT, packet.size() - Packet.HEAD - Packet.PART_CONTENT);
        sentSecond.moveOffset(Packet.PART_CONTENT / 8);
        sentSecond.mendSum();
    }

    private Packet sentPacket(int packet) {
        if (packet != 0 && packet != 1) {
            throw new IndexOutOfBoundsException("no such packet");
        }
        return packet == 0 ? sentFirst : sentSecond;
    }

    // ---- looking up

    private Seal sealAt(int k) {
        Seal found = k >= 0 && k < sealsUsed && k < SEALS ? seals[k] : null;
        if (found == null) {
            throw new IndexOutOfBoundsException("no such seal");
        }
        return found;
    }

    private Seal sealNamed(int name) {
        for (int k = 0; k < sealsUsed && k < SEALS; k++) {
            Seal seal = seals[k];
            if (seal != null && seal.way() == IN && seal.name() == name) {
                return seal;
            }
        }
        return null;
    }

    private int peerOf(int tunnel) {
        return isTunnel(tunnel) ? peers[tunnel] : 0;
    }

    private static boolean isByte(int b) {
        return b >= 0 && b <= 255;
    }

    private static boolean isWidth(int width) {
        return width >= 0 && width <= 32;
    }

    private static boolean isPortOrWay(int number) {
        return number == 0 || number == 1;
    }

    private static boolean isTunnel(int tunnel) {
        return tunnel >= 0 && tunnel < TUNNELS;
    }

    /** Bytes in a row of one size for all, so that rows are made once and used again; outside of them all reads as 0. */
    private static final class Packet {
        static final int HEAD = 20;
        static final int PART_CONTENT = 1480;
        // The largest one is a tape of 2000 bytes when it is sealed: 2040.
        private static final int ROOM = 2040;
        private static final int FIRST_BYTE = 0x45;
        private static final int DONT = 0x4000;
        private static final int MORE = 0x2000;
        private static final int OFFSET = 0x1FFF;

        private final byte[] row = new byte[ROOM];
        private int size;

        int size() {
            return size;
        }

        void resize(int n) {
            size = n < 0 ? 0 : Math.min(n, ROOM);
        }

        int byteAt(int k) {
            return k >= 0 && k < size ? row[k] & 255 : 0;
        }

        int pairAt(int k) {
            return k >= 0 && k < size - 1 ? (row[k] & 255) << 8 | row[k + 1] & 255 : 0;
        }

        int wordAt(int k) {
            boolean isThere = k >= 0 && k < size - 3;
            return isThere ? row[k] << 24 | (row[k + 1] & 255) << 16 | (row[k + 2] & 255) << 8 | row[k + 3] & 255 : 0;
        }

        long longAt(int k) {
            return (long) wordAt(k) << 32 | wordAt(k + 4) & 0xFFFFFFFFL;
        }

        void setByte(int k, int b) {
            if (k >= 0 && k < size) {
                row[k] = (byte) b;
            }
        }

        void setPair(int k, int pair) {
            if (k >= 0 && k < size - 1) {
                row[k] = (byte) (pair >>> 8);
                row[k + 1] = (byte) pair;
            }
        }

        void setWord(int k, int word) {
            setPair(k, word >>> 16);
            setPair(k + 2, word);
        }

        void setLong(int k, long bytes) {
            setWord(k, (int) (bytes >>> 32));
            setWord(k + 4, (int) bytes);
        }

        void copy(Packet source) {
            resize(source.size);
            copyBytes(source, 0, 0, source.size);
        }

        void copyBytes(Packet source, int from, int to, int n) {
            if (n > 0 && from >= 0 && to >= 0 && from <= source.size - n && to <= size - n) {
                System.arraycopy(source.row, from, row, to, n);
            }
        }

        int length() {
            return pairAt(2);
        }

        int number() {
            return pairAt(4);
        }

        int hops() {
            return byteAt(8);
        }

        int kind() {
            return byteAt(9);
        }

        int from() {
            return wordAt(12);
        }

        int to() {
            return wordAt(16);
        }

        boolean hasMore() {
            return (pairAt(6) & MORE) != 0;
        }

        boolean isPart() {
            return (pairAt(6) & (MORE | OFFSET)) != 0;
        }

        /** Where its content begins in that of the whole, and where it ends. */
        int start() {
            return 8 * (pairAt(6) & OFFSET);
        }

        int end() {
            return 8 * (pairAt(6) & OFFSET) + size - HEAD;
        }

        boolean isTooMuch() {
            return size > SEND_LIMIT && (pairAt(6) & DONT) != 0;
        }

        int door() {
            boolean hasDoors = kind() == 6 || kind() == 17;
            return hasDoors && !isPart() && size >= HEAD + 4 ? pairAt(HEAD + 2) : NONE;
        }

        boolean isBroken() {
            if (size < HEAD || byteAt(0) != FIRST_BYTE) {
                return true;
            }
            return length() < HEAD || length() > size || addHead() != 65535;
        }

        void cutToLength() {
            resize(Math.min(length(), size));
        }

        int mendSum() {
            setPair(10, 0);
            int right = 65535 - addHead();
            setPair(10, right);
            return right;
        }

        private int addHead() {
            int total = 0;
            for (int k = 0; k < HEAD; k += 2) {
                total += pairAt(k);
            }
            // Ten pairs stay below 2^20, so that folding twice leaves 16 bits.
            total = (total & 65535) + (total >>> 16);
            return (total & 65535) + (total >>> 16);
        }

        void loseHop() {
            setByte(8, hops() - 1);
            mendSum();
        }

        /** All of a head for the size that the packet has, but for its sum. */
        void writeHead(int from, int to, int kind, int hops) {
            setPair(0, FIRST_BYTE << 8);
            setPair(2, size);
            setPair(4, 0);
            setPair(6, 0);
            setByte(8, hops);
            setByte(9, kind);
            setWord(12, from);
            setWord(16, to);
        }

        /** What the head of a sealed packet has of the packet inside. */
        void takeOver(Packet inner, int number) {
            setByte(1, inner.byteAt(1));
            setPair(4, number);
            setPair(6, inner.pairAt(6) & DONT);
        }

        void becomePart(Packet whole, int from, int n) {
            resize(HEAD + n);
            copyBytes(whole, 0, 0, HEAD);
            copyBytes(whole, HEAD + from, HEAD, n);
            setPair(2, size);
        }

        void setMore() {
            setPair(6, pairAt(6) | MORE);
        }

        void unsetMore() {
            setPair(6, pairAt(6) & ~MORE);
        }

        void moveOffset(int more) {
            int flags = pairAt(6);
            setPair(6, flags & ~OFFSET | flags + more & OFFSET);
        }

        /** Whether n bytes from k on are 1, 2, 3, .. */
        boolean countsUp(int k, int n) {
            for (int i = 0; i < n; i++) {
                if (byteAt(k + i) != i + 1) {
                    return false;
                }
            }
            return true;
        }
    }

    private static final class Net {
        private final int address;
        private final int width;

        Net(int address, int width) {
            this.address = address;
            this.width = width;
        }

        int width() {
            return width;
        }

        boolean has(int other) {
            // A shift by 32 would be one by 0.
            return width == 0 || (address ^ other) >>> (32 - width) == 0;
        }
    }

    private static final class Routes {
        private static final int LIMIT = 16;
        private final Net[] nets = new Net[LIMIT];
        private final int[] ports = new int[LIMIT];
        private int used;

        boolean isFull() {
            return used >= LIMIT;
        }

        int append(Net net, int port) {
            if (used >= 0 && used < LIMIT) {
                nets[used] = net;
                ports[used] = port;
                used++;
            }
            return used;
        }

        void empty() {
            used = 0;
        }

        int portOf(int address) {
            int widest = NONE;
            int port = NONE;
            for (int k = 0; k < used && k < LIMIT; k++) {
                Net net = nets[k];
                if (net != null && net.width() >= widest && net.has(address)) {
                    widest = net.width();
                    port = ports[k];
                }
            }
            return port;
        }
    }

    private static final class Policy {
        private final int way;
        private final Net from;
        private final Net to;
        private final int done;
        private final int kind;
        private final int low;
        private final int high;

        Policy(int way, Net from, Net to, int done, int kind, int low, int high) {
            this.way = way;
            this.from = from;
            this.to = to;
            this.done = done;
            this.kind = kind;
            this.low = low;
            this.high = high;
        }

        int done() {
            return done;
        }

        boolean means(int itsWay, int itsFrom, int itsTo, int itsKind, int itsDoor) {
            return way == itsWay && from.has(itsFrom) && to.has(itsTo)
                    && (kind == 0 || kind == itsKind) && meansDoor(itsDoor);
        }

        private boolean meansDoor(int door) {
            boolean any = low == 0 && high == Policies.HIGHEST_DOOR;
            return any || door != NONE && door >= low && door <= high;
        }
    }

    private static final class Policies {
        static final int HIGHEST_DOOR = 65535;
        private static final int LIMIT = 24;
        private final Policy[] rows = new Policy[LIMIT];
        private int used;
        private int nextKind;
        private int nextLow;
        private int nextHigh = HIGHEST_DOOR;

        boolean isFull() {
            return used >= LIMIT;
        }

        void nextMeans(int kind, int low, int high) {
            nextKind = kind;
            nextLow = low;
            nextHigh = high;
        }

        int append(int way, Net from, Net to, int done) {
            if (used >= 0 && used < LIMIT) {
                rows[used] = new Policy(way, from, to, done, nextKind, nextLow, nextHigh);
                used++;
            }
            nextMeans(0, 0, HIGHEST_DOOR);
            return used;
        }

        void empty() {
            used = 0;
            nextMeans(0, 0, HIGHEST_DOOR);
        }

        int placeFor(int way, Packet packet) {
            int from = packet.from();
            int to = packet.to();
            int kind = packet.kind();
            int door = packet.door();
            for (int k = 0; k < used && k < LIMIT; k++) {
                Policy policy = rows[k];
                if (policy != null && policy.means(way, from, to, kind, door)) {
                    return k;
                }
            }
            return NONE;
        }

        /** DISCARD when no policy means the packet: nobody lets that through either. */
        int doneWith(int way, Packet packet) {
            int place = placeFor(way, packet);
            Policy policy = place >= 0 && place < LIMIT ? rows[place] : null;
            return policy == null ? DISCARD : policy.done();
        }
    }

    private static final class Seal {
        private static final int NAME_AT = 20;
        private static final int NUMBER_AT = 24;
        private static final int TEXT_AT = 28;
        private static final int STAMP_SIZE = 8;
        // A sealed packet beside its text: head, name, number and stamp.
        private static final int AROUND_TEXT = TEXT_AT + STAMP_SIZE;
        private static final int WINDOW = 64;
        private static final long LOW_BITS = 0xFFFFFFFFL;
        private static final long HIGHEST_NUMBER = 0x7FFFFFFFFFFFFFFFL;

        private final int way;
        private final int tunnel;
        private final int name;
        private final long key;
        private final long stampKey;
        private final boolean isLong;
        private int life;
        private boolean isStopped;
        // COUNTER of the way out, TOP of the way in.
        private long counter;
        private long seenBits;

        Seal(int way, int tunnel, int name, long key, long stampKey, boolean isLong, int life) {
            this.way = way;
            this.tunnel = tunnel;
            this.name = name;
            this.key = key;
            this.stampKey = stampKey;
            this.isLong = isLong;
            this.life = life;
        }

        int way() {
            return way;
        }

        int tunnel() {
            return tunnel;
        }

        int name() {
            return name;
        }

        boolean isLong() {
            return isLong;
        }

        int life() {
            return life;
        }

        long counter() {
            return counter;
        }

        long seenBits() {
            return seenBits;
        }

        boolean isDead() {
            return isStopped || life <= 0;
        }

        void end() {
            isStopped = true;
        }

        long lastNumber() {
            return isLong ? HIGHEST_NUMBER : LOW_BITS;
        }

        void countFrom(long number) {
            counter = number;
            seenBits = way == IN && number != 0 ? 1 : 0;
        }

        // ---- closing

        boolean canClose(int askedTunnel) {
            return way == OUT && tunnel == askedTunnel && !isDead() && counter < lastNumber();
        }

        int sealedSize(Packet plain) {
            return AROUND_TEXT + plain.size() + fillFor(plain) + 2;
        }

        private static int fillFor(Packet plain) {
            return -(plain.size() + 2) & 3;
        }

        /** The next number is used up; the content comes behind the head that the sealed packet has already. */
        void close(Packet plain, Packet sealed) {
            counter++;
            life--;
            int fill = fillFor(plain);
            int end = TEXT_AT + plain.size() + fill;
            sealed.setWord(NAME_AT, name);
            sealed.setWord(NUMBER_AT, (int) counter);
            sealed.copyBytes(plain, 0, TEXT_AT, plain.size());
            for (int k = 0; k < fill; k++) {
                sealed.setByte(TEXT_AT + plain.size() + k, k + 1);
            }
            sealed.setByte(end, fill);
            sealed.setByte(end + 1, TEXT_IS_PACKET);
            stream(sealed, TEXT_AT, end + 2, counter);
            sealed.setLong(end + 2, stamp(sealed, end + 2, counter));
        }

        private void stream(Packet packet, int from, int end, long number) {
            long s = key ^ number * 0x9E3779B97F4A7C15L;
            for (int k = from; k < end; k++) {
                s = s * 6364136223846793005L + 1442695040888963407L;
                packet.setByte(k, packet.byteAt(k) ^ (int) (s >>> 56));
            }
        }

        private long stamp(Packet sealed, int end, long number) {
            long h = stampKey;
            for (int k = NAME_AT; k < end; k++) {
                h = stampByte(h, sealed.byteAt(k));
            }
            if (isLong) {
                for (int shift = 56; shift >= 32; shift -= 8) {
                    h = stampByte(h, (int) (number >>> shift) & 255);
                }
            }
            return h ^ h >>> 32;
        }

        private static long stampByte(long h, int b) {
            return (h ^ b) * 1099511628211L;
        }

        // ---- opening

        static boolean hasShape(Packet sealed) {
            int text = sealed.size() - AROUND_TEXT;
            return text >= 4 && (text & 3) == 0;
        }

        static int nameIn(Packet sealed) {
            return sealed.wordAt(NAME_AT);
        }

        static int lowNumberIn(Packet sealed) {
            return sealed.wordAt(NUMBER_AT);
        }

        /** NONE where the document says that there is none. */
        long wholeNumber(int lowBits) {
            long low = lowBits & LOW_BITS;
            if (!isLong) {
                return low;
            }
            long high = counter >>> 32;
            long first = (counter & LOW_BITS) - (WINDOW - 1);
            if (first >= 0 && low < first) {
                high++;
            } else if (first < 0 && low >= first + LOW_BITS + 1) {
                high--;
            }
            return high < 0 || high > HIGHEST_NUMBER >>> 32 ? NONE : high << 32 | low;
        }

        boolean isOld(long number) {
            return number <= 0 || number < counter - (WINDOW - 1);
        }

        boolean wasSeen(long number) {
            long back = counter - number;
            return back >= 0 && back < WINDOW && (seenBits >>> (int) back & 1) != 0;
        }

        boolean fitsStamp(Packet sealed, long number) {
            int end = sealed.size() - STAMP_SIZE;
            return stamp(sealed, end, number) == sealed.longAt(end);
        }

        void accept(long number) {
            long ahead = number - counter;
            if (ahead > 0) {
                seenBits = ahead < WINDOW ? seenBits << (int) ahead | 1 : 1;
                counter = number;
            } else if (ahead > -WINDOW) {
                seenBits |= 1L << (int) -ahead;
            }
            life--;
        }

        void open(Packet sealed, Packet inner, long number) {
            int text = sealed.size() - AROUND_TEXT;
            inner.resize(text);
            inner.copyBytes(sealed, TEXT_AT, 0, text);
            stream(inner, 0, text, number);
        }
    }

    /** The parts of one packet, laid where they belong in the whole. */
    private static final class Heap {
        private static final int CONTENT_LIMIT = 1980;
        private static final int TICKS = 8;
        private final Packet whole = new Packet();
        private final byte[] isThere = new byte[CONTENT_LIMIT];
        private int from;
        private int number;
        private int there;
        private int reach;
        private int end;
        private int ticks;

        void begin(Packet part) {
            whole.resize(Packet.HEAD + CONTENT_LIMIT);
            Arrays.fill(isThere, (byte) 0);
            from = part.from();
            number = part.number();
            there = 0;
            reach = 0;
            end = NONE;
            ticks = 0;
        }

        boolean isOf(Packet part) {
            return from == part.from() && number == part.number();
        }

        boolean isOver() {
            ticks++;
            return ticks >= TICKS;
        }

        /** Whether a part is wrong wherever it comes. */
        static boolean isMisshapen(Packet part) {
            int n = part.size() - Packet.HEAD;
            return part.hasMore() && (n == 0 || (n & 7) != 0) || part.end() > CONTENT_LIMIT;
        }

        boolean refuses(Packet part) {
            int partEnd = part.end();
            if (end != NONE && (partEnd > end || !part.hasMore())) {
                return true;
            }
            return !part.hasMore() && reach > partEnd || hasByteOf(part.start(), partEnd);
        }

        private boolean hasByteOf(int start, int stop) {
            for (int k = start; k < stop && k < CONTENT_LIMIT; k++) {
                if (k >= 0 && isThere[k] != 0) {
                    return true;
                }
            }
            return false;
        }

        void lay(Packet part) {
            int start = part.start();
            int stop = part.end();
            whole.copyBytes(part, Packet.HEAD, Packet.HEAD + start, stop - start);
            if (start == 0) {
                whole.copyBytes(part, 0, 0, Packet.HEAD);
            }
            for (int k = start; k < stop && k < CONTENT_LIMIT; k++) {
                if (k >= 0) {
                    isThere[k] = 1;
                }
            }
            there += stop - start;
            reach = Math.max(reach, stop);
            if (!part.hasMore()) {
                end = stop;
            }
        }

        boolean isWhole() {
            // No byte is there twice and none behind the end, so counting them is enough.
            return there == end;
        }

        void writeWhole(Packet into) {
            into.becomePart(whole, 0, end);
            into.unsetMore();
        }
    }

    private static final class Heaps {
        private static final int LIMIT = 4;
        // Those begun first stand first; behind them stand heaps to be used again.
        private final Heap[] rows = new Heap[LIMIT];
        private int used;

        int size() {
            return used;
        }

        void empty() {
            used = 0;
        }

        int hearTick() {
            int gone = 0;
            for (int k = Math.min(used, LIMIT) - 1; k >= 0; k--) {
                Heap heap = rows[k];
                if (heap != null && heap.isOver()) {
                    drop(k);
                    gone++;
                }
            }
            return gone;
        }

        /** Keeps a part, or drops its heap and answers false when it is wrong. */
        boolean accept(Packet part) {
            int place = placeOf(part);
            Heap heap = heapAt(place);
            if (Heap.isMisshapen(part) || heap != null && heap.refuses(part)) {
                drop(place);
                return false;
            }
            if (heap == null) {
                heap = begin(part);
            }
            heap.lay(part);
            return true;
        }

        /** Puts the whole packet in the place of its part, if all of it is there. */
        boolean giveWhole(Packet part) {
            int place = placeOf(part);
            Heap heap = heapAt(place);
            if (heap == null || !heap.isWhole()) {
                return false;
            }
            heap.writeWhole(part);
            drop(place);
            return true;
        }

        private int placeOf(Packet part) {
            for (int k = 0; k < used && k < LIMIT; k++) {
                Heap heap = rows[k];
                if (heap != null && heap.isOf(part)) {
                    return k;
                }
            }
            return NONE;
        }

        private Heap heapAt(int place) {
            return place >= 0 && place < used && place < LIMIT ? rows[place] : null;
        }

        private Heap begin(Packet part) {
            if (used >= LIMIT) {
                drop(0);
            }
            Heap heap = used >= 0 && used < LIMIT ? rows[used] : null;
            if (heap == null) {
                heap = new Heap();
            }
            if (used >= 0 && used < LIMIT) {
                rows[used] = heap;
                used++;
            }
            heap.begin(part);
            return heap;
        }

        private void drop(int place) {
            Heap gone = heapAt(place);
            if (gone == null) {
                return;
            }
            for (int k = place; k < used - 1 && k < LIMIT - 1; k++) {
                rows[k] = rows[k + 1];
            }
            used--;
            if (used >= 0 && used < LIMIT) {
                rows[used] = gone;
            }
        }
    }

    /** The latest packets that were refused, the latest one first. */
    private static final class Log {
        static final int WIDTH = 5;
        private static final int LIMIT = 16;
        private final int[] cells = new int[LIMIT * WIDTH];
        private int used;

        int size() {
            return used;
        }

        void empty() {
            used = 0;
        }

        int cell(int k, int what) {
            boolean isThere = k >= 0 && k < used && k < LIMIT && what >= 0 && what < WIDTH;
            return isThere ? cells[k * WIDTH + what] : 0;
        }

        void note(int reason, Packet packet, int name, int number) {
            for (int k = LIMIT * WIDTH - 1; k >= WIDTH; k--) {
                cells[k] = cells[k - WIDTH];
            }
            cells[0] = reason;
            cells[1] = packet.from();
            cells[2] = packet.to();
            cells[3] = name;
            cells[4] = number;
            used = Math.min(used + 1, LIMIT);
        }
    }
}
