import java.util.ArrayList;
import java.util.List;
import java.util.Random;

/**
 * Two objects of the same scene, a call made on one of them alone: if the call changes nothing
 * they answer alike ever after. What no call tells at once (TIME, START, what is FETCHED or
 * AWAITED, when a broker was CAUGHT UP) comes to light in what follows.
 */
final class Twins {
    private static final int SEEDS = 6;

    private Twins() { }

    interface Scene {
        InSyncLog make();
    }

    interface Call {
        int on(InSyncLog x);
    }

    interface YesNoCall {
        boolean on(InSyncLog x);

        default Call counted() {
            return x -> on(x) ? 1 : 0;
        }
    }

    private interface Probe {
        void on(InSyncLog x, List<Integer> answers);
    }

    private static final List<Probe> PROBES = probes();

    private static List<Probe> probes() {
        List<Probe> probes = new ArrayList<>(List.of(Twins::look, Twins::deliverAll, Twins::deliverBackwards,
                Twins::review, Twins::talk, Twins::append, Twins::startAgain, Twins::governOn));
        for (int seed = 1; seed <= SEEDS; seed++) {
            int s = seed;
            probes.add((x, answers) -> wander(x, answers, new Random(s)));
        }
        return probes;
    }

    /** Empty if the call changes nothing, or else the answers that differ. */
    static String difference(Scene scene, Call call) {
        return difference(scene, call, x -> 0);
    }

    /** Empty if one call changes what the other one does, or else the answers that differ. */
    static String difference(Scene scene, Call one, Call other) {
        for (int p = 0; p < PROBES.size(); p++) {
            List<Integer> got = answersAfter(scene, one, PROBES.get(p));
            List<Integer> want = answersAfter(scene, other, PROBES.get(p));
            if (!got.equals(want)) {
                return "(probe " + p + ": " + got + " and not " + want + ")";
            }
        }
        return "";
    }

    private static List<Integer> answersAfter(Scene scene, Call call, Probe probe) {
        InSyncLog x = scene.make();
        call.on(x);
        List<Integer> answers = new ArrayList<>();
        probe.on(x, answers);
        return answers;
    }

    private static void add(List<Integer> answers, boolean answer) {
        answers.add(answer ? 1 : 0);
    }

    private static void look(InSyncLog x, List<Integer> answers) {
        glance(x, answers);
        int words = 7 * x.flight();
        for (int j = 0; j < words; j++) {
            answers.add(x.message(j / 7, j % 7));
        }
        for (int b = 0; b < 4; b++) {
            int end = x.broker(b, 4);
            for (int offset = 0; offset < end; offset++) {
                answers.add(x.epochAt(b, offset));
                answers.add(x.valueAt(b, offset));
            }
        }
    }

    private static void glance(InSyncLog x, List<Integer> answers) {
        answers.add(x.flight());
        for (int k = 0; k < 3; k++) {
            answers.add(x.controller(k));
        }
        for (int j = 0; j < 28; j++) {
            answers.add(x.broker(j / 7, j % 7));
        }
    }

    private static void deliverAll(InSyncLog x, List<Integer> answers) {
        for (int i = 0; i < 16; i++) {
            add(answers, x.deliver(0));
        }
        look(x, answers);
    }

    private static void deliverBackwards(InSyncLog x, List<Integer> answers) {
        for (int i = 0; i < 16; i++) {
            add(answers, x.deliver(x.flight() - 1));
        }
        look(x, answers);
    }

    private static void review(InSyncLog x, List<Integer> answers) {
        for (int i = 0; i < 22; i++) {
            for (int b = 0; b < 4; b++) {
                answers.add(x.review(b));
            }
            x.tick(1);
        }
        glance(x, answers);
    }

    private static void talk(InSyncLog x, List<Integer> answers) {
        for (int i = 0; i < 8; i++) {
            x.lose(0);
        }
        for (int f = 0; f < 8; f++) {
            add(answers, x.fetch(f % 4));
            x.deliver(0);
            x.deliver(0);
            answers.add(x.review((f + 1) % 4));
        }
        look(x, answers);
    }

    private static void append(InSyncLog x, List<Integer> answers) {
        for (int b = 0; b < 4; b++) {
            answers.add(x.produce(b, 1000 + b));
            answers.add(x.commit(b, b));
            answers.add(x.committed(b));
            answers.add(x.readable(b, x.broker(b, 5) - 1));
        }
        look(x, answers);
    }

    private static void startAgain(InSyncLog x, List<Integer> answers) {
        for (int b = 0; b < 4; b++) {
            add(answers, x.crash(b));
            add(answers, x.restart(b));
            add(answers, x.learn(b));
        }
        deliverAll(x, answers);
    }

    private static void governOn(InSyncLog x, List<Integer> answers) {
        add(answers, x.govern(0));
        add(answers, x.govern(1));
        for (int b = 0; b < 4; b++) {
            add(answers, x.restart(b));
            add(answers, x.learn(b));
        }
        talk(x, answers);
    }

    private static void wander(InSyncLog x, List<Integer> answers, Random random) {
        for (int i = 0; i < 120; i++) {
            int b = random.nextInt(4);
            switch (random.nextInt(14)) {
                case 0, 1, 2 -> add(answers, x.fetch(b));
                case 3, 4, 5, 6 -> add(answers, x.deliver(random.nextInt(2) * b));
                case 7 -> answers.add(x.produce(b, i));
                case 8 -> answers.add(x.commit(b, random.nextInt(3)));
                case 9 -> answers.add(x.review(b));
                case 10 -> add(answers, x.learn(b));
                case 11 -> add(answers, random.nextInt(4) == 0 ? x.crash(b) : x.restart(b));
                case 12 -> add(answers, random.nextInt(4) == 0 ? x.govern(1 << b) : x.govern(0));
                default -> add(answers, x.tick(random.nextInt(3)));
            }
        }
        glance(x, answers);
    }
}
