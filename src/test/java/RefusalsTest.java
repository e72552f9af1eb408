import java.util.ArrayList;
import java.util.LinkedHashMap;
import java.util.List;
import java.util.Map;

/**
 * "A call that answers false or one of the constants below changes nothing": in many scenes every
 * call with many arguments; whichever answers so leaves the object as it was, and so does each
 * call that only tells something.
 */
public final class RefusalsTest extends Bench {
    private static final int[] BROKERS = {0, 1, 2, 3, -1, 4, MIN, MAX};
    private static final int[] MESSAGES = {0, 1, 2, 7, 8, -1, MIN, MAX};
    private static final int[] OFFSETS = {0, 1, 2, 39, 40, 41, -1, MIN, MAX};
    private static final int[] NUMBERS = {0, 1, 2, 3, 6, 7, 15, 16, 50, 51, -1, -16, MIN, MAX};

    /** So that no object is used for more than 512 calls. */
    private static final int TELLERS_AT_ONCE = 100;

    private final Map<String, Twins.Scene> scenes = new LinkedHashMap<>();
    /** Calls that change something unless they are refused. */
    private final Map<String, Twins.Call> doers = new LinkedHashMap<>();
    private final List<Twins.Call> tellers = new ArrayList<>();
    private int refusals = 0;

    public static void main(String[] args) {
        RefusalsTest test = new RefusalsTest();
        test.listScenes();
        test.listDoers();
        test.listTellers();
        test.tryAll();
        test.checks.part("all scenes");
        test.due("refusals were met", true, test.refusals > 1000);
        test.checks.finish();
    }

    private void listScenes() {
        scenes.put("a new object", () -> new InSyncLog(5, 3, 1));
        scenes.put("records that count", this::counted);
        scenes.put("a leader down", this::countedThenDown);
        scenes.put("a leader restarted", this::countedThenRestarted);
        scenes.put("no leader", this::countedThenLeaderless);
        scenes.put("another leader", this::countedThenFollowing);
        scenes.put("few in sync", () -> inSyncWith(1, 3));
        scenes.put("a full log", () -> fullAlone(1));
        scenes.put("a full log and few in sync", () -> fullAlone(2));
        scenes.put("HW about to rise", () -> aboutToRise(3, 1));
        scenes.put("HW about to rise, few in sync", () -> aboutToRise(3, 2));
        scenes.put("HW about to rise, a full log", () -> aboutToRise(40, 1));
        scenes.put("logs apart", this::split);
        scenes.put("messages under way", this::underWay);
        scenes.put("a full channel", this::fullChannel);
        scenes.put("all down", this::allDown);
        scenes.put("two that lead", this::twoThatLead);
    }

    /** A FETCH, a BATCH and a CUT under way, time going on. */
    private InSyncLog underWay() {
        InSyncLog x = split();
        x.learn(2);
        x.fetch(0);
        x.deliver(0);
        x.tick(2);
        x.fetch(2);
        x.deliver(1);
        x.tick(3);
        x.fetch(3);
        return x;
    }

    private InSyncLog fullChannel() {
        InSyncLog x = counted();
        x.produce(0, 60);
        x.tick(1);
        for (int i = 0; i < 8; i++) {
            x.fetch(1 + i % 3);
        }
        x.deliver(7);
        x.deliver(2);
        return x;
    }

    private InSyncLog allDown() {
        InSyncLog x = fullChannel();
        x.govern(8);
        for (int b = 0; b < 4; b++) {
            x.crash(b);
        }
        return x;
    }

    private InSyncLog twoThatLead() {
        InSyncLog x = fullChannel();
        x.govern(1);
        x.learn(1);
        x.produce(0, 61);
        x.produce(1, 62);
        return x;
    }

    private void listDoers() {
        for (int b : BROKERS) {
            doers.put("produce(" + b + ", 9)", x -> x.produce(b, 9));
            for (int offset : OFFSETS) {
                doers.put("commit(" + b + ", " + offset + ")", x -> x.commit(b, offset));
            }
            doers.put("review(" + b + ")", x -> x.review(b));
            doers.put("fetch(" + b + ")", yesOrNo(x -> x.fetch(b)));
            doers.put("learn(" + b + ")", yesOrNo(x -> x.learn(b)));
            doers.put("crash(" + b + ")", yesOrNo(x -> x.crash(b)));
            doers.put("restart(" + b + ")", yesOrNo(x -> x.restart(b)));
        }
        for (int i : MESSAGES) {
            doers.put("deliver(" + i + ")", yesOrNo(x -> x.deliver(i)));
            doers.put("lose(" + i + ")", yesOrNo(x -> x.lose(i)));
        }
        for (int n : NUMBERS) {
            doers.put("govern(" + n + ")", yesOrNo(x -> x.govern(n)));
            doers.put("tick(" + n + ")", yesOrNo(x -> x.tick(n)));
        }
    }

    /** Any constant stands for false here: all are below 0, and no call that is done answers so. */
    private static Twins.Call yesOrNo(Twins.YesNoCall call) {
        return x -> call.on(x) ? 1 : NONE;
    }

    private void listTellers() {
        tellers.add(InSyncLog::flight);
        for (int b : BROKERS) {
            tellers.add(x -> x.committed(b));
            for (int offset : OFFSETS) {
                tellers.add(x -> x.readable(b, offset));
                tellers.add(x -> x.epochAt(b, offset));
                tellers.add(x -> x.valueAt(b, offset));
            }
            for (int k : NUMBERS) {
                tellers.add(x -> x.broker(b, k));
            }
        }
        for (int i : MESSAGES) {
            for (int w : NUMBERS) {
                tellers.add(x -> x.message(i, w));
            }
        }
        for (int k : NUMBERS) {
            tellers.add(x -> x.controller(k));
        }
    }

    private void tryAll() {
        for (Map.Entry<String, Twins.Scene> scene : scenes.entrySet()) {
            checks.part(scene.getKey());
            for (Map.Entry<String, Twins.Call> call : doers.entrySet()) {
                if (call.getValue().on(scene.getValue().make()) < 0) {
                    refusals++;
                    dueUnchanged(call.getKey(), scene.getValue(), call.getValue());
                }
            }
            for (int from = 0; from < tellers.size(); from += TELLERS_AT_ONCE) {
                List<Twins.Call> some = tellers.subList(from, Math.min(tellers.size(), from + TELLERS_AT_ONCE));
                dueUnchanged("each call that only tells", scene.getValue(), x -> tellAll(x, some));
            }
            if (checks.wrong() > 0) {
                return;
            }
        }
    }

    private void dueUnchanged(String what, Twins.Scene scene, Twins.Call call) {
        dueAlike(what + " changes nothing", Twins.difference(scene, call));
    }

    private static int tellAll(InSyncLog x, List<Twins.Call> tellers) {
        int sum = 0;
        for (Twins.Call teller : tellers) {
            sum += teller.on(x);
        }
        return sum;
    }
}
