import java.util.ArrayList;
import java.util.List;
import java.util.function.ToLongFunction;

/** All that can be seen of a gateway: what can be asked, and what calls behind it answer. */
final class Look {
    private Look() {
    }

    private static long answer(ToLongFunction<Gate> call, Gate g) {
        try {
            return call.applyAsLong(g);
        } catch (IndexOutOfBoundsException e) {
            return -1001;
        } catch (IllegalArgumentException e) {
            return -1002;
        } catch (IllegalStateException e) {
            return -1003;
        }
    }

    /** Uses up to some 120 calls that change it. */
    static List<Long> all(Gate g) {
        List<Long> row = new ArrayList<>();
        look(g, row);
        row.add(answer(x -> x.come(0), g));
        row.add(answer(x -> x.come(1), g));
        tapes(g, row);
        row.add(answer(x -> x.take(1), g));
        row.add(answer(x -> x.take(0), g));
        tapes(g, row);
        row.add(answer(x -> x.policy(0, 0x7F000001, 32, 0, 0, -1), g));
        for (int number : new int[] {2, 3, 7, 8}) {
            g.make(0x7F000001, 0x7F000002, number == 7 ? 6 : 17, 9, 4, number);
            g.poke(22, 0);
            row.add(answer(x -> x.meaning(0), g));
        }
        for (int k = 0; k < 25; k++) {
            row.add(answer(x -> x.policy(0, 0, 0, 0, 0, -1), g));
            row.add(answer(x -> x.route(0x0B000001, 32, 1), g));
            int unused = 5000 + k;
            row.add(answer(x -> x.seal(0, 0, unused, 1, 1, true, 9), g));
        }
        for (int k = 0; k < 9; k++) {
            row.add(answer(x -> x.tick(), g));
        }
        for (int t = 0; t < 4; t++) {
            int tunnel = t;
            row.add(answer(x -> x.peer(tunnel, 1), g));
        }
        look(g, row);
        return row;
    }

    private static void tapes(Gate g, List<Long> row) {
        long n = 0;
        for (int k = 0; n != -1001; k++) {
            int at = k;
            n = answer(x -> x.at(at), g);
            row.add(n);
        }
        row.add(answer(x -> x.meaning(0), g));
        row.add(answer(x -> x.meaning(1), g));
    }

    /** Only asks. */
    static void look(Gate g, List<Long> row) {
        tapes(g, row);
        for (int p = 0; p < 2; p++) {
            int packet = p;
            long n = 0;
            for (int k = -2; n != -1001; k++) {
                int at = k;
                n = answer(x -> x.sent(packet, at), g);
                row.add(n);
            }
        }
        for (int n = 0; n <= 20; n++) {
            int k = n;
            row.add(answer(x -> x.ended(k), g));
            row.add(answer(x -> x.top(k), g));
            row.add(answer(x -> x.seen(k), g));
            row.add(answer(x -> x.routed(k << 24), g));
            for (int w = 0; w < 6; w++) {
                int what = w;
                row.add(answer(x -> x.told(k, what), g));
                row.add(answer(x -> x.log(k, what), g));
            }
        }
    }
}
