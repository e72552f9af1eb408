import java.util.Arrays;

/** A log that four brokers keep together; DOC.md says what each call promises. */
public final class InSyncLog {
    public static final int NONE = -1;
    public static final int FULL = -2;
    public static final int FEW = -3;

    private static final int BROKERS = 4;
    private static final int ALL_BROKERS = 15;
    private static final int LOG_ROOM = 40;
    private static final int CHANNEL_ROOM = 8;
    private static final int LONGEST_BATCH = 3;
    private static final int LONGEST_TICK = 50;
    private static final int NOTHING = -1;

    private static final int FETCH = 0;
    private static final int CUT = 1;
    private static final int BATCH = 2;

    private final int lag;
    private final int batch;
    private final int least;
    private final Broker[] brokers;
    private final Controller control;
    private final Channel channel;
    private int time;

    public InSyncLog(int lag, int batch, int least) {
        this.lag = nearest(lag, 1, 20);
        this.batch = nearest(batch, 1, LONGEST_BATCH);
        this.least = nearest(least, 1, 3);
        this.control = new Controller();
        this.channel = new Channel();
        this.brokers = new Broker[BROKERS];
        for (int b = 0; b < BROKERS; b++) {
            this.brokers[b] = new Broker(b);
        }
    }

    public int produce(int b, int value) {
        if (!isLeading(b)) {
            return NONE;
        }
        return append(brokers[b], brokers[b].epoch, value);
    }

    public int commit(int b, int offset) {
        if (!isLeading(b) || offset < 0 || offset > brokers[b].hw) {
            return NONE;
        }
        return append(brokers[b], -brokers[b].epoch, offset);
    }

    public int readable(int b, int offset) {
        if (!isLeading(b) || offset >= brokers[b].hw || !brokers[b].log.has(offset)) {
            return 0;
        }
        return brokers[b].log.isMark(offset) ? 2 : 1;
    }

    public int committed(int b) {
        if (!isLeading(b)) {
            return NONE;
        }
        Log log = brokers[b].log;
        for (int offset = brokers[b].hw - 1; offset >= 0; offset--) {
            if (log.isMark(offset)) {
                return log.valueOf(offset);
            }
        }
        return NONE;
    }

    public boolean fetch(int f) {
        if (!isUp(f) || brokers[f].leads() || brokers[f].leader == NONE) {
            return false;
        }
        Broker follower = brokers[f];
        follower.fetches++;
        follower.awaits = true;
        channel.send(FETCH, follower, follower.leader, follower.fetches,
                follower.log.end, follower.log.lastEpoch());
        return true;
    }

    public boolean deliver(int i) {
        Message message = channel.take(i);
        if (message == null) {
            return false;
        }
        Broker receiver = brokers[message.to];
        if (message.kind == FETCH) {
            answer(receiver, message);
        } else {
            receiver.accept(message);
        }
        return true;
    }

    public boolean lose(int i) {
        return channel.take(i) != null;
    }

    public int flight() {
        return channel.count;
    }

    public int message(int i, int w) {
        return channel.has(i) ? channel.slots[i].word(w) : NONE;
    }

    public int review(int b) {
        if (!isLeading(b) || brokers[b].epoch != control.epoch) {
            return NONE;
        }
        Broker leader = brokers[b];
        control.isr = leader.replicasInSync(time, lag);
        leader.sync = control.isr;
        leader.raiseHw();
        return control.isr;
    }

    public boolean learn(int b) {
        if (!isUp(b) || brokers[b].epoch == control.epoch) {
            return false;
        }
        brokers[b].adopt(control, time);
        return true;
    }

    public boolean crash(int b) {
        if (!isUp(b)) {
            return false;
        }
        brokers[b].goDown();
        return true;
    }

    public boolean restart(int b) {
        if (!isBroker(b) || brokers[b].up) {
            return false;
        }
        brokers[b].up = true;
        return true;
    }

    public boolean govern(int suspects) {
        int alive = 0;
        for (int b = 0; b < BROKERS; b++) {
            if (brokers[b].up && !contains(suspects, b)) {
                alive |= 1 << b;
            }
        }
        return control.reactTo(alive);
    }

    public boolean tick(int n) {
        if (n < 0 || n > LONGEST_TICK) {
            return false;
        }
        time += n;
        return true;
    }

    public int controller(int k) {
        switch (k) {
            case 0: return control.epoch;
            case 1: return control.leader;
            case 2: return control.isr;
            default: return NONE;
        }
    }

    public int broker(int b, int k) {
        return isBroker(b) ? brokers[b].fact(k) : NONE;
    }

    public int epochAt(int b, int offset) {
        return isBroker(b) ? brokers[b].log.stampOf(offset) : 0;
    }

    public int valueAt(int b, int offset) {
        return isBroker(b) ? brokers[b].log.valueOf(offset) : 0;
    }

    private static int nearest(int number, int low, int high) {
        return Math.max(low, Math.min(high, number));
    }

    private static boolean isBroker(int b) {
        return b >= 0 && b < BROKERS;
    }

    private static boolean contains(int set, int b) {
        return ((set >> b) & 1) == 1;
    }

    private static int leastOf(int set) {
        for (int b = 0; b < BROKERS; b++) {
            if (contains(set, b)) {
                return b;
            }
        }
        return NONE;
    }

    private boolean isUp(int b) {
        return isBroker(b) && brokers[b].up;
    }

    private boolean isLeading(int b) {
        return isBroker(b) && brokers[b].leads();
    }

    private int append(Broker leader, int stamp, int value) {
        if (leader.log.isFull()) {
            return FULL;
        }
        if (Integer.bitCount(leader.sync) < least) {
            return FEW;
        }
        leader.log.add(stamp, value);
        leader.raiseHw();
        return leader.log.end - 1;
    }

    private void answer(Broker leader, Message fetch) {
        if (!leader.leads() || leader.epoch != fetch.epoch) {
            return;
        }
        if (leader.log.continues(fetch.size, fetch.tail)) {
            leader.noteFetched(fetch.from, fetch.size, time);
            sendBatch(leader, fetch);
        } else {
            sendCut(leader, fetch);
        }
    }

    private void sendCut(Broker leader, Message fetch) {
        int kept = leader.log.countUpTo(fetch.tail);
        channel.send(CUT, leader, fetch.from, fetch.number, kept, leader.log.epochOf(kept - 1));
    }

    private void sendBatch(Broker leader, Message fetch) {
        int size = Math.min(batch, leader.log.end - fetch.size);
        Message sent = channel.send(BATCH, leader, fetch.from, fetch.number, size, leader.hw);
        if (sent != null) {
            sent.copyRecords(leader.log, fetch.size);
        }
    }

    /** Records of one broker. A STAMP is a record's epoch, made negative if it is a MARK. */
    private static final class Log {
        private final int[] stamps = new int[LOG_ROOM];
        private final int[] values = new int[LOG_ROOM];
        private int end = 0;

        private boolean has(int offset) {
            return offset >= 0 && offset < end;
        }

        private boolean isFull() {
            return end >= LOG_ROOM;
        }

        private boolean isMark(int offset) {
            return stampOf(offset) < 0;
        }

        private int stampOf(int offset) {
            return has(offset) ? stamps[offset] : 0;
        }

        private int epochOf(int offset) {
            return Math.abs(stampOf(offset));
        }

        private int valueOf(int offset) {
            return has(offset) ? values[offset] : 0;
        }

        private int lastEpoch() {
            return epochOf(end - 1);
        }

        private void add(int stamp, int value) {
            if (isFull()) {
                return;
            }
            stamps[end] = stamp;
            values[end] = value;
            end++;
        }

        private void cutTo(int length) {
            end = Math.min(end, length);
        }

        /** Whether a log of this length and last epoch is a beginning of this one. */
        private boolean continues(int length, int epoch) {
            return length == 0 || length <= end && epochOf(length - 1) == epoch;
        }

        private int countUpTo(int epoch) {
            // Epochs never fall from one offset to the next, so these records all come first.
            int count = 0;
            while (count < end && epochOf(count) <= epoch) {
                count++;
            }
            return count;
        }
    }

    private static final class Broker {
        private final int id;
        private final Log log = new Log();
        private final int[] fetched = new int[BROKERS];
        private final int[] caughtUp = new int[BROKERS];
        private boolean up = true;
        private int epoch = 1;
        private int leader = 0;
        private int hw = 0;
        private int fetches = 0;
        private boolean awaits = false;
        private int start = 0;
        private int sync = ALL_BROKERS;

        private Broker(int id) {
            this.id = id;
            Arrays.fill(fetched, NOTHING);
        }

        private boolean leads() {
            return up && leader == id;
        }

        private int fact(int k) {
            switch (k) {
                case 0: return up ? 1 : 0;
                case 1: return epoch;
                case 2: return leader;
                case 3: return leads() ? sync : 0;
                case 4: return log.end;
                case 5: return hw;
                case 6: return fetches;
                default: return NONE;
            }
        }

        private void adopt(Controller control, int time) {
            epoch = control.epoch;
            leader = control.leader;
            awaits = false;
            if (leads()) {
                start = log.end;
                sync = control.isr;
                Arrays.fill(fetched, NOTHING);
                Arrays.fill(caughtUp, time);
            }
        }

        private void goDown() {
            up = false;
            epoch = 0;
            leader = NONE;
            awaits = false;
        }

        private void noteFetched(int f, int length, int time) {
            fetched[f] = Math.max(fetched[f], length);
            if (length == log.end) {
                caughtUp[f] = time;
            }
            raiseHw();
        }

        private void raiseHw() {
            int shared = log.end;
            for (int m = 0; m < BROKERS; m++) {
                if (m != id && contains(sync, m)) {
                    shared = Math.min(shared, fetched[m]);
                }
            }
            hw = Math.max(hw, shared);
        }

        private int replicasInSync(int time, int lag) {
            int replicas = 1 << id;
            for (int m = 0; m < BROKERS; m++) {
                boolean lagging = time - caughtUp[m] > lag;
                if (!lagging && (contains(sync, m) || hasFetchedEnough(m))) {
                    replicas |= 1 << m;
                }
            }
            return replicas;
        }

        private boolean hasFetchedEnough(int m) {
            // Below START may lie records that count though HW does not show it yet.
            return fetched[m] >= hw && fetched[m] >= start;
        }

        private void accept(Message reply) {
            if (!isExpecting(reply)) {
                return;
            }
            awaits = false;
            if (reply.kind == CUT) {
                log.cutTo(Math.min(reply.size, log.countUpTo(reply.tail)));
            } else {
                reply.appendRecords(log);
                hw = Math.max(hw, Math.min(reply.tail, log.end));
            }
        }

        private boolean isExpecting(Message reply) {
            return up && !leads() && epoch == reply.epoch && awaits && fetches == reply.number;
        }
    }

    private static final class Controller {
        private int epoch = 1;
        private int leader = 0;
        private int isr = ALL_BROKERS;

        /** Whether the epoch grew by what is seen of the brokers alive. */
        private boolean reactTo(int alive) {
            int remaining = isr & alive;
            boolean leaderAlive = leader != NONE && contains(alive, leader);
            if (remaining == 0) {
                // ISR stays: no broker outside of it is sure to have all records that count.
                return leader != NONE && begin(NONE, isr);
            }
            if (leaderAlive && remaining == isr) {
                return false;
            }
            return begin(leaderAlive ? leader : leastOf(remaining), remaining);
        }

        private boolean begin(int newLeader, int newIsr) {
            leader = newLeader;
            isr = newIsr;
            epoch++;
            return true;
        }
    }

    private static final class Message {
        private final int[] stamps = new int[LONGEST_BATCH];
        private final int[] values = new int[LONGEST_BATCH];
        private int kind;
        private int from;
        private int to;
        private int epoch;
        private int number;
        /** A FETCH's END, a CUT's w, how many records a BATCH has. */
        private int size;
        /** A FETCH's last epoch, a CUT's epoch, a BATCH's HW. */
        private int tail;

        private int word(int w) {
            switch (w) {
                case 0: return kind;
                case 1: return from;
                case 2: return to;
                case 3: return epoch;
                case 4: return number;
                case 5: return size;
                case 6: return tail;
                default: return NONE;
            }
        }

        private void copyRecords(Log log, int offset) {
            for (int i = 0; i < size && i < LONGEST_BATCH; i++) {
                stamps[i] = log.stampOf(offset + i);
                values[i] = log.valueOf(offset + i);
            }
        }

        private void appendRecords(Log log) {
            for (int i = 0; i < size && i < LONGEST_BATCH; i++) {
                log.add(stamps[i], values[i]);
            }
        }
    }

    private static final class Channel {
        /** One slot more than the channel holds: the message taken last stays whole in it. */
        private final Message[] slots = new Message[CHANNEL_ROOM + 1];
        private int count = 0;

        private Channel() {
            for (int i = 0; i <= CHANNEL_ROOM; i++) {
                slots[i] = new Message();
            }
        }

        private boolean has(int i) {
            return i >= 0 && i < count;
        }

        /** The message taken out, good until the next one is taken; null if there is none. */
        private Message take(int i) {
            if (!has(i)) {
                return null;
            }
            Message taken = slots[i];
            for (int k = i; k < CHANNEL_ROOM; k++) {
                slots[k] = slots[k + 1];
            }
            slots[CHANNEL_ROOM] = taken;
            count--;
            return taken;
        }

        /** The message sent; null if it is lost for want of room. */
        private Message send(int kind, Broker sender, int to, int number, int size, int tail) {
            if (count >= CHANNEL_ROOM) {
                return null;
            }
            Message sent = slots[count];
            count++;
            sent.kind = kind;
            sent.from = sender.id;
            sent.to = to;
            sent.epoch = sender.epoch;
            sent.number = number;
            sent.size = size;
            sent.tail = tail;
            return sent;
        }
    }
}
