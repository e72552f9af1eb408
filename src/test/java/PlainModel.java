import java.util.ArrayList;
import java.util.List;
import java.util.TreeSet;

/**
 * The document written a second time, with the Java library and without thought of room or
 * speed, for random runs to be compared with.
 */
final class PlainModel {
    record Rec(int epoch, int value, boolean mark) { }

    record Msg(int kind, int from, int to, int epoch, int number, int five, int six, List<Rec> records) { }

    static final class Node {
        final List<Rec> log = new ArrayList<>();
        boolean up = true;
        int epoch = 1;
        Integer leader = 0;
        int hw = 0;
        int number = 0;
        Integer awaited = null;
        int start = 0;
        TreeSet<Integer> sync = new TreeSet<>(List.of(0, 1, 2, 3));
        Integer[] fetched = new Integer[4];
        int[] caughtUp = new int[4];

        int lastEpoch() {
            return log.isEmpty() ? 0 : log.get(log.size() - 1).epoch();
        }

        int withEpochAtMost(int e) {
            return (int) log.stream().filter(r -> r.epoch() <= e).count();
        }
    }

    final Node[] nodes = {new Node(), new Node(), new Node(), new Node()};
    final List<Msg> channel = new ArrayList<>();
    final int lag;
    final int batch;
    final int least;
    int epoch = 1;
    Integer leader = 0;
    TreeSet<Integer> isr = new TreeSet<>(List.of(0, 1, 2, 3));
    int time = 0;

    PlainModel(int lag, int batch, int least) {
        this.lag = lag < 1 ? 1 : lag > 20 ? 20 : lag;
        this.batch = batch < 1 ? 1 : batch > 3 ? 3 : batch;
        this.least = least < 1 ? 1 : least > 3 ? 3 : least;
    }

    static boolean none(int b) {
        return b < 0 || b > 3;
    }

    boolean leads(int b) {
        return !none(b) && nodes[b].up && nodes[b].leader != null && nodes[b].leader == b;
    }

    static int bits(TreeSet<Integer> set) {
        return set.stream().mapToInt(b -> 1 << b).sum();
    }

    void rise(int b) {
        Node n = nodes[b];
        int low = n.log.size();
        for (int m : n.sync) {
            if (m == b) {
                continue;
            }
            int has = n.fetched[m] == null ? -1 : n.fetched[m];
            if (has < low) {
                low = has;
            }
        }
        if (low > n.hw) {
            n.hw = low;
        }
    }

    int produce(int b, int value) {
        return leads(b) ? append(b, value, false) : -1;
    }

    int commit(int b, int offset) {
        return leads(b) && offset >= 0 && offset <= nodes[b].hw ? append(b, offset, true) : -1;
    }

    private int append(int b, int value, boolean mark) {
        Node n = nodes[b];
        if (n.log.size() == 40) {
            return -2;
        }
        if (n.sync.size() < least) {
            return -3;
        }
        n.log.add(new Rec(n.epoch, value, mark));
        rise(b);
        return n.log.size() - 1;
    }

    int readable(int b, int offset) {
        if (!leads(b) || offset < 0 || offset >= nodes[b].hw) {
            return 0;
        }
        return nodes[b].log.get(offset).mark() ? 2 : 1;
    }

    int committed(int b) {
        int found = -1;
        if (leads(b)) {
            for (Rec r : nodes[b].log.subList(0, nodes[b].hw)) {
                found = r.mark() ? r.value() : found;
            }
        }
        return found;
    }

    boolean fetch(int f) {
        if (none(f) || !nodes[f].up || leads(f) || nodes[f].leader == null) {
            return false;
        }
        Node n = nodes[f];
        n.number++;
        n.awaited = n.number;
        send(new Msg(0, f, n.leader, n.epoch, n.number, n.log.size(), n.lastEpoch(), List.of()));
        return true;
    }

    private void send(Msg m) {
        if (channel.size() < 8) {
            channel.add(m);
        }
    }

    boolean deliver(int i) {
        if (i < 0 || i >= channel.size()) {
            return false;
        }
        Msg m = channel.remove(i);
        if (m.kind() == 0) {
            deliverFetch(m);
        } else {
            deliverReply(m);
        }
        return true;
    }

    private void deliverFetch(Msg m) {
        int b = m.to();
        Node n = nodes[b];
        if (!leads(b) || n.epoch != m.epoch()) {
            return;
        }
        int end = m.five();
        int e = m.six();
        if (end > n.log.size() || end > 0 && n.log.get(end - 1).epoch() != e) {
            int w = n.withEpochAtMost(e);
            send(new Msg(1, b, m.from(), n.epoch, m.number(), w, w == 0 ? 0 : n.log.get(w - 1).epoch(), List.of()));
            return;
        }
        if (n.fetched[m.from()] == null || n.fetched[m.from()] < end) {
            n.fetched[m.from()] = end;
        }
        if (end == n.log.size()) {
            n.caughtUp[m.from()] = time;
        }
        rise(b);
        List<Rec> some = List.copyOf(n.log.subList(end, Math.min(n.log.size(), end + batch)));
        send(new Msg(2, b, m.from(), n.epoch, m.number(), some.size(), n.hw, some));
    }

    private void deliverReply(Msg m) {
        Node n = nodes[m.to()];
        if (!n.up || n.epoch != m.epoch() || leads(m.to())) {
            return;
        }
        if (m.number() != n.number || n.awaited == null) {
            return;
        }
        n.awaited = null;
        if (m.kind() == 1) {
            int t = Math.min(m.five(), n.withEpochAtMost(m.six()));
            while (n.log.size() > t) {
                n.log.remove(n.log.size() - 1);
            }
            return;
        }
        n.log.addAll(m.records());
        int low = Math.min(m.six(), n.log.size());
        if (low > n.hw) {
            n.hw = low;
        }
    }

    boolean lose(int i) {
        if (i < 0 || i >= channel.size()) {
            return false;
        }
        channel.remove(i);
        return true;
    }

    int flight() {
        return channel.size();
    }

    int message(int i, int w) {
        if (i < 0 || i >= channel.size() || w < 0 || w > 6) {
            return -1;
        }
        Msg m = channel.get(i);
        return new int[] {m.kind(), m.from(), m.to(), m.epoch(), m.number(), m.five(), m.six()}[w];
    }

    int review(int b) {
        if (!leads(b) || nodes[b].epoch != epoch) {
            return -1;
        }
        Node n = nodes[b];
        TreeSet<Integer> next = new TreeSet<>(List.of(b));
        for (int m = 0; m < 4; m++) {
            if (m == b || time - n.caughtUp[m] > lag) {
                continue;
            }
            Integer has = n.fetched[m];
            if (n.sync.contains(m) || has != null && has >= n.hw && has >= n.start) {
                next.add(m);
            }
        }
        isr = next;
        n.sync = new TreeSet<>(next);
        rise(b);
        return bits(isr);
    }

    boolean learn(int b) {
        if (none(b) || !nodes[b].up || nodes[b].epoch == epoch) {
            return false;
        }
        Node n = nodes[b];
        n.epoch = epoch;
        n.leader = leader;
        n.awaited = null;
        if (leads(b)) {
            n.start = n.log.size();
            n.sync = new TreeSet<>(isr);
            n.fetched = new Integer[4];
            n.caughtUp = new int[] {time, time, time, time};
        }
        return true;
    }

    boolean crash(int b) {
        if (none(b) || !nodes[b].up) {
            return false;
        }
        nodes[b].up = false;
        nodes[b].epoch = 0;
        nodes[b].leader = null;
        nodes[b].awaited = null;
        return true;
    }

    boolean restart(int b) {
        if (none(b) || nodes[b].up) {
            return false;
        }
        nodes[b].up = true;
        return true;
    }

    boolean govern(int suspects) {
        TreeSet<Integer> alive = new TreeSet<>();
        for (int b = 0; b < 4; b++) {
            if (nodes[b].up && (suspects & (1 << b)) == 0) {
                alive.add(b);
            }
        }
        TreeSet<Integer> left = new TreeSet<>(isr);
        left.retainAll(alive);
        if (left.isEmpty()) {
            if (leader == null) {
                return false;
            }
            leader = null;
            epoch++;
            return true;
        }
        if (leader == null || !alive.contains(leader) || !alive.containsAll(isr)) {
            if (leader == null || !alive.contains(leader)) {
                leader = left.first();
            }
            isr = left;
            epoch++;
            return true;
        }
        return false;
    }

    boolean tick(int n) {
        if (n < 0 || n > 50) {
            return false;
        }
        time += n;
        return true;
    }

    int controller(int k) {
        return k == 0 ? epoch : k == 1 ? (leader == null ? -1 : leader) : k == 2 ? bits(isr) : -1;
    }

    int broker(int b, int k) {
        if (none(b) || k < 0 || k > 6) {
            return -1;
        }
        Node n = nodes[b];
        return new int[] {n.up ? 1 : 0, n.epoch, n.leader == null ? -1 : n.leader,
            leads(b) ? bits(n.sync) : 0, n.log.size(), n.hw, n.number}[k];
    }

    int epochAt(int b, int offset) {
        if (none(b) || offset < 0 || offset >= nodes[b].log.size()) {
            return 0;
        }
        Rec r = nodes[b].log.get(offset);
        return r.mark() ? -r.epoch() : r.epoch();
    }

    int valueAt(int b, int offset) {
        return none(b) || offset < 0 || offset >= nodes[b].log.size() ? 0 : nodes[b].log.get(offset).value();
    }
}
