/** What the tests share that say by hand which answer is due: checks, short ways, and scenes. */
abstract class Bench {
    static final int NONE = -1;
    static final int FULL = -2;
    static final int FEW = -3;
    static final int FETCH = 0;
    static final int CUT = 1;
    static final int BATCH = 2;
    static final int MIN = Integer.MIN_VALUE;
    static final int MAX = Integer.MAX_VALUE;
    /** Next to the brokers, what a mask, a shift or a narrow type would make one, and the far ends. */
    static final int[] NO_BROKERS = {-1, 4, -4, 8, 32, 256, 65536, MIN, MIN + 1, MAX};

    final Checks checks = new Checks();

    /** A sentence of the document, word for word, and the tests that are its own. */
    final void sentence(String where, String words, Runnable... tests) {
        checks.part(where + ", \"" + words + "\"");
        for (Runnable test : tests) {
            test.run();
        }
    }

    final void due(String what, int want, int got) {
        checks.due(what, want, got);
    }

    final void due(String what, boolean want, boolean got) {
        checks.due(what, want, got);
    }

    final void dueMessage(InSyncLog x, int i, int... words) {
        for (int w = 0; w < words.length; w++) {
            due("message(" + i + ", " + w + ")", words[w], x.message(i, w));
        }
    }

    final void dueBroker(InSyncLog x, int b, int... facts) {
        for (int k = 0; k < facts.length; k++) {
            due("broker(" + b + ", " + k + ")", facts[k], x.broker(b, k));
        }
    }

    final void dueController(InSyncLog x, int epoch, int leader, int isr) {
        due("controller(0)", epoch, x.controller(0));
        due("controller(1)", leader, x.controller(1));
        due("controller(2)", isr, x.controller(2));
    }

    final void dueLog(InSyncLog x, int b, int... epochsAndValues) {
        due("END of " + b, epochsAndValues.length / 2, x.broker(b, 4));
        for (int i = 0; i < epochsAndValues.length / 2; i++) {
            due("epochAt(" + b + ", " + i + ")", epochsAndValues[2 * i], x.epochAt(b, i));
            due("valueAt(" + b + ", " + i + ")", epochsAndValues[2 * i + 1], x.valueAt(b, i));
        }
    }

    /** A call that answers one of the constants, and changes nothing. */
    final void refused(String what, int want, Twins.Scene scene, Twins.Call call) {
        due(what, want, call.on(scene.make()));
        dueAlike(what + " changes nothing", Twins.difference(scene, call));
    }

    /** A call that answers false, and changes nothing. */
    final void refused(String what, Twins.Scene scene, Twins.YesNoCall call) {
        due(what, false, call.on(scene.make()));
        dueAlike(what + " changes nothing", Twins.difference(scene, call.counted()));
    }

    /** A delivery by which nothing happens: the message is gone, as if it had been lost. */
    final void inVain(String what, int i, Twins.Scene scene) {
        due("deliver of " + what, true, scene.make().deliver(i));
        dueAlike("deliver of " + what + " is as lose",
                Twins.difference(scene, x -> x.deliver(i) ? 1 : 0, x -> x.lose(i) ? 1 : 0));
    }

    final void dueAlike(String what, String difference) {
        due(what + difference, true, difference.isEmpty());
    }

    /** Broker f fetches and gets its reply, in a channel that is empty before and after. */
    final void exchange(InSyncLog x, int f) {
        due("fetch(" + f + ") of an exchange", true, x.fetch(f));
        due("deliver(0) of a FETCH of " + f, true, x.deliver(0));
        due("deliver(0) of the reply to " + f, true, x.deliver(0));
    }

    /** The same some times, behind messages that stay in the channel. */
    final void exchangeLast(InSyncLog x, int f, int times) {
        for (int i = 0; i < times; i++) {
            x.fetch(f);
            x.deliver(x.flight() - 1);
            x.deliver(x.flight() - 1);
        }
    }

    final void exchangeAll(InSyncLog x) {
        for (int f = 1; f < 4; f++) {
            exchange(x, f);
        }
    }

    final void produceMany(InSyncLog x, int b, int records) {
        for (int i = 0; i < records; i++) {
            x.produce(b, 100 + i);
        }
    }

    /** An object whose broker 0 leads alone in ISR and SYNC, still in epoch 1. */
    final InSyncLog alone(int batch, int least) {
        InSyncLog x = new InSyncLog(1, batch, least);
        x.tick(2);
        due("review(0) of a lonely leader", 1, x.review(0));
        return x;
    }

    /** An object with SYNC of 0 and of this many others, LAG 5 and nothing in any log. */
    final InSyncLog inSyncWith(int others, int least) {
        InSyncLog x = new InSyncLog(5, 3, least);
        x.tick(5);
        for (int f = 1; f <= others; f++) {
            exchange(x, f);
        }
        x.tick(1);
        due("review(0) with " + others + " others", (1 << others + 1) - 1, x.review(0));
        return x;
    }

    /** Broker 0 has three records of epoch 1, and 1 leads in epoch 2 with the first and one of its own. */
    final InSyncLog split() {
        InSyncLog x = new InSyncLog(5, 3, 1);
        x.produce(0, 10);
        exchange(x, 1);
        x.produce(0, 11);
        x.produce(0, 12);
        x.crash(0);
        x.govern(0);
        x.learn(1);
        x.produce(1, 20);
        x.restart(0);
        x.learn(0);
        return x;
    }

    /** DATA and a MARK of value 0 that count, HW 2 with all four brokers, ISR all four, TIME 0. */
    final InSyncLog counted() {
        InSyncLog x = new InSyncLog(5, 3, 1);
        x.produce(0, 50);
        x.commit(0, 0);
        exchangeAll(x);
        exchangeAll(x);
        exchangeAll(x);
        return x;
    }

    /** The same, but 0 does not lead any more: it is not UP. */
    final InSyncLog countedThenDown() {
        InSyncLog x = counted();
        x.crash(0);
        return x;
    }

    /** It is UP again, but has not learned. */
    final InSyncLog countedThenRestarted() {
        InSyncLog x = countedThenDown();
        x.restart(0);
        return x;
    }

    /** It has learned that there is no leader. */
    final InSyncLog countedThenLeaderless() {
        InSyncLog x = counted();
        x.govern(15);
        x.learn(0);
        return x;
    }

    /** It has learned that 1 leads. */
    final InSyncLog countedThenFollowing() {
        InSyncLog x = counted();
        x.govern(1);
        x.learn(0);
        return x;
    }

    /** Broker 0 has so many records, and has learned that it is alone in ISR: HW is 0 until it RISES. */
    final InSyncLog aboutToRise(int records, int least) {
        InSyncLog x = new InSyncLog(5, 3, least);
        produceMany(x, 0, records);
        x.govern(14);
        x.learn(0);
        dueBroker(x, 0, 1, 2, 0, 1, records, 0, 0);
        return x;
    }

    /** Of broker 0 alone in SYNC 40 records, all of which count. */
    final InSyncLog fullAlone(int least) {
        InSyncLog x = new InSyncLog(1, 3, least);
        produceMany(x, 0, 40);
        x.tick(2);
        due("review(0) of a lonely leader", 1, x.review(0));
        return x;
    }
}
