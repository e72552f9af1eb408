import java.util.ArrayList;
import java.util.List;
import java.util.Random;

/**
 * Random runs (with written seeds, so always the same ones) of at most 512 calls, each answer
 * compared with that of the plain model; and what the document says of all runs: HW never passes
 * END, epochs in a log never fall, and a record that counts is in the log of whoever leads later.
 */
public final class RandomRunsTest {
    private static final int RUNS = 6000;
    private static final int CALLS = 512;
    private static final int CALLS_BEFORE_LOOK = 400;
    private static final int[] ODD = {-1, 4, 5, 7, 8, 9, 40, 41, 51, 31, 32, 100,
        Integer.MIN_VALUE, Integer.MAX_VALUE, Integer.MIN_VALUE + 1};

    private final Checks checks;
    private final Random random;
    private final InSyncLog log;
    private final PlainModel model;
    private final int calm;
    private final List<PlainModel.Rec> counted = new ArrayList<>();

    private RandomRunsTest(Checks checks, int seed) {
        this.checks = checks;
        this.random = new Random(seed);
        int lag = random.nextInt(26) - 2;
        int batch = random.nextInt(7) - 2;
        int least = random.nextInt(7) - 2;
        this.calm = random.nextInt(4);
        this.log = new InSyncLog(lag, batch, least);
        this.model = new PlainModel(lag, batch, least);
        checks.part("seed " + seed);
    }

    public static void main(String[] args) {
        Checks checks = new Checks();
        for (int seed = 1; seed <= RUNS && checks.wrong() < 20; seed++) {
            new RandomRunsTest(checks, seed).run();
        }
        checks.finish();
    }

    private void run() {
        for (int i = 0; i < CALLS_BEFORE_LOOK && checks.wrong() < 20; i++) {
            step();
            lookAtLaws();
        }
        lookAtAll(CALLS - CALLS_BEFORE_LOOK);
    }

    private int number(int bound) {
        return random.nextInt(40) == 0 ? ODD[random.nextInt(ODD.length)] : random.nextInt(bound);
    }

    private int someBroker() {
        return number(4);
    }

    private int someLeader() {
        int b = random.nextInt(4);
        for (int k = 0; k < 4; k++) {
            if (model.leads((b + k) & 3)) {
                return (b + k) & 3;
            }
        }
        return b;
    }

    private int someMessage() {
        return random.nextInt(3) == 0 ? 0 : number(Math.max(1, model.flight()));
    }

    private void step() {
        int kind = random.nextInt(100);
        if (kind < 40) {
            talk();
        } else if (kind < 60) {
            append();
        } else if (kind < 75 + 3 * calm) {
            look();
        } else {
            disturb();
        }
    }

    private void talk() {
        if (model.flight() == 0 || random.nextInt(5) < 2) {
            int f = someBroker();
            checks.due("fetch(" + f + ")", model.fetch(f), log.fetch(f));
            return;
        }
        int i = someMessage();
        if (random.nextInt(15) == 0) {
            checks.due("lose(" + i + ")", model.lose(i), log.lose(i));
        } else {
            checks.due("deliver(" + i + ")", model.deliver(i), log.deliver(i));
        }
    }

    private void append() {
        int b = random.nextInt(4) == 0 ? someBroker() : someLeader();
        if (random.nextInt(4) == 0) {
            int offset = random.nextInt(3) == 0 ? number(42) : number(1 + Math.max(0, model.broker(b, 5)));
            checks.due("commit(" + b + ", " + offset + ")", model.commit(b, offset), log.commit(b, offset));
        } else {
            int value = random.nextInt();
            checks.due("produce(" + b + ", " + value + ")", model.produce(b, value), log.produce(b, value));
        }
    }

    private void disturb() {
        int b = someBroker();
        switch (random.nextInt(12)) {
            case 0 -> {
                if (random.nextInt(1 + calm) == 0) {
                    checks.due("crash(" + b + ")", model.crash(b), log.crash(b));
                }
            }
            case 1, 2 -> checks.due("restart(" + b + ")", model.restart(b), log.restart(b));
            case 3, 4, 5, 6 -> checks.due("learn(" + b + ")", model.learn(b), log.learn(b));
            case 7 -> {
                int suspects = random.nextInt(3) > 0 ? 0 : random.nextInt(4) == 0 ? random.nextInt() : 1 << random.nextInt(5);
                checks.due("govern(" + suspects + ")", model.govern(suspects), log.govern(suspects));
            }
            case 8, 9 -> {
                int r = random.nextInt(4) == 0 ? b : someLeader();
                checks.due("review(" + r + ")", model.review(r), log.review(r));
            }
            default -> {
                int n = random.nextInt(20) == 0 ? number(51) : number(3);
                checks.due("tick(" + n + ")", model.tick(n), log.tick(n));
            }
        }
    }

    private void look() {
        int b = random.nextInt(2) == 0 ? someBroker() : someLeader();
        int i = number(9);
        int w = number(8);
        int offset = random.nextInt(2) == 0 ? number(42) : number(8);
        switch (random.nextInt(8)) {
            case 0 -> checks.due("readable(" + b + ", " + offset + ")", model.readable(b, offset), log.readable(b, offset));
            case 1 -> checks.due("committed(" + b + ")", model.committed(b), log.committed(b));
            case 2 -> checks.due("flight()", model.flight(), log.flight());
            case 3 -> checks.due("message(" + i + ", " + w + ")", model.message(i, w), log.message(i, w));
            case 4 -> checks.due("controller(" + w + ")", model.controller(w), log.controller(w));
            case 5 -> checks.due("broker(" + b + ", " + w + ")", model.broker(b, w), log.broker(b, w));
            case 6 -> checks.due("epochAt(" + b + ", " + offset + ")", model.epochAt(b, offset), log.epochAt(b, offset));
            default -> checks.due("valueAt(" + b + ", " + offset + ")", model.valueAt(b, offset), log.valueAt(b, offset));
        }
    }

    private void lookAtAll(int calls) {
        checks.due("flight()", model.flight(), log.flight());
        int made = 1;
        for (int k = 0; k < 3; k++, made++) {
            checks.due("controller(" + k + ")", model.controller(k), log.controller(k));
        }
        for (int j = 0; j < 28; j++, made++) {
            checks.due("broker(" + j / 7 + ", " + j % 7 + ")", model.broker(j / 7, j % 7), log.broker(j / 7, j % 7));
        }
        for (int j = 0; j < 7 * model.flight(); j++, made++) {
            checks.due("message(" + j / 7 + ", " + j % 7 + ")", model.message(j / 7, j % 7), log.message(j / 7, j % 7));
        }
        for (; made + 2 <= calls; made += 2) {
            int b = random.nextInt(4);
            int offset = random.nextInt(1 + model.broker(b, 4));
            checks.due("epochAt(" + b + ", " + offset + ")", model.epochAt(b, offset), log.epochAt(b, offset));
            checks.due("valueAt(" + b + ", " + offset + ")", model.valueAt(b, offset), log.valueAt(b, offset));
        }
    }

    private void lookAtLaws() {
        for (int b = 0; b < 4; b++) {
            PlainModel.Node node = model.nodes[b];
            checks.due("HW of " + b + " within END", true, node.hw <= node.log.size());
            for (int i = 1; i < node.log.size(); i++) {
                checks.due("epochs of " + b + " never fall", true, node.log.get(i - 1).epoch() <= node.log.get(i).epoch());
            }
            for (int i = 0; i < Math.min(node.hw, node.log.size()); i++) {
                if (i == counted.size()) {
                    counted.add(node.log.get(i));
                }
                checks.due("record " + i + " of " + b + " counts for all", true, counted.get(i).equals(node.log.get(i)));
            }
        }
        for (int b = 0; b < 4; b++) {
            List<PlainModel.Rec> has = model.nodes[b].log;
            if (model.leads(b) && model.nodes[b].epoch == model.epoch) {
                checks.due("leader " + b + " has what counts", true,
                        has.size() >= counted.size() && has.subList(0, counted.size()).equals(counted));
            }
        }
    }
}
