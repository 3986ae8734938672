import java.util.ArrayList;
import java.util.List;

/**
 * A gateway as the document lets it be used: an object gets 512 calls and no more. When it has had them, the calls
 * that could change it, also those that were refused, are done again on a new object, and the asking goes on there.
 */
final class Gate {
    private static final int CALLS = 512;

    private interface Call {
        long on(SealedGateway object);
    }

    private final int own;
    private final List<Call> changes = new ArrayList<>();
    private SealedGateway object;
    private int calls;
    private boolean isAskingKept;

    Gate(int own) {
        this.own = own;
        object = new SealedGateway(own);
    }

    /** How many calls more can change it. */
    int left() {
        return CALLS - changes.size();
    }

    /** From now on what only asks is done again too (or, with false, no more). */
    void keepAsking(boolean isKept) {
        isAskingKept = isKept;
    }

    private void makeRoom() {
        if (calls == CALLS) {
            if (left() <= 0) {
                throw new AssertionError("a test goes beyond 512 calls on an object");
            }
            object = new SealedGateway(own);
            for (Call change : changes) {
                doAgain(change);
            }
            calls = changes.size();
        }
        calls++;
    }

    private void doAgain(Call call) {
        try {
            call.on(object);
        } catch (RuntimeException e) {
            // It was refused when it was made, and told then.
        }
    }

    private long ask(Call call) {
        if (isAskingKept) {
            return change(call);
        }
        makeRoom();
        return call.on(object);
    }

    private long change(Call call) {
        makeRoom();
        changes.add(call);
        return call.on(object);
    }

    int type(long bytes) {
        return (int) change(x -> x.type(bytes));
    }

    void keep(int n) {
        change(x -> {
            x.keep(n);
            return 0;
        });
    }

    int poke(int k, int b) {
        return (int) change(x -> x.poke(k, b));
    }

    int at(int k) {
        return (int) ask(x -> x.at(k));
    }

    int make(int from, int to, int kind, int hops, int n, int number) {
        return (int) change(x -> x.make(from, to, kind, hops, n, number));
    }

    int sum() {
        return (int) change(x -> x.sum());
    }

    int route(int address, int width, int port) {
        return (int) change(x -> x.route(address, width, port));
    }

    int peer(int tunnel, int address) {
        return (int) change(x -> x.peer(tunnel, address));
    }

    void meant(int kind, int low, int high) {
        change(x -> {
            x.meant(kind, low, high);
            return 0;
        });
    }

    int policy(int way, int from, int fromWidth, int to, int toWidth, int done) {
        return (int) change(x -> x.policy(way, from, fromWidth, to, toWidth, done));
    }

    int seal(int way, int tunnel, int name, long key, long stampKey, boolean isLong, int life) {
        return (int) change(x -> x.seal(way, tunnel, name, key, stampKey, isLong, life));
    }

    boolean stop(int seal) {
        return change(x -> x.stop(seal) ? 1 : 0) == 1;
    }

    long count(int seal, long number) {
        return change(x -> x.count(seal, number));
    }

    int come(int port) {
        return (int) change(x -> x.come(port));
    }

    int meaning(int way) {
        return (int) ask(x -> x.meaning(way));
    }

    int routed(int address) {
        return (int) ask(x -> x.routed(address));
    }

    int sent(int packet, int k) {
        return (int) ask(x -> x.sent(packet, k));
    }

    int take(int packet) {
        return (int) change(x -> x.take(packet));
    }

    int told(int seal, int what) {
        return (int) ask(x -> x.told(seal, what));
    }

    long top(int seal) {
        return ask(x -> x.top(seal));
    }

    long seen(int seal) {
        return ask(x -> x.seen(seal));
    }

    int tick() {
        return (int) change(x -> x.tick());
    }

    int log(int k, int what) {
        return (int) ask(x -> x.log(k, what));
    }

    int ended(int reason) {
        return (int) ask(x -> x.ended(reason));
    }

    void clear() {
        change(x -> {
            x.clear();
            return 0;
        });
    }
}
