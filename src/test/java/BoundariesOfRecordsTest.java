/**
 * Each sentence of promises 1 to 5, 19 and 20, and of the terms they use, that names a boundary
 * case, with tests of its own.
 */
public final class BoundariesOfRecordsTest extends Bench {
    /** Offsets that no log has, whatever is in it. */
    private static final int[] NO_OFFSETS = {-1, -2, -40, 40, 41, 256, 65536, MIN, MIN + 1, MAX};

    public static void main(String[] args) {
        BoundariesOfRecordsTest test = new BoundariesOfRecordsTest();
        test.newObjects();
        test.produceAndCommit();
        test.consumers();
        test.looks();
        test.checks.finish();
    }

    private void newObjects() {
        sentence("promise 1", "but the nearest number of their ranges where they are outside of them",
                this::lagAndItsRange, this::batchAndItsRange, this::leastAndItsRange, this::eachByItself);
        sentence("terms", "Each has a LOG of at most 40 RECORDS", this::fortyRecordsInEachLog);
        sentence("what it is", "An object is used for at most 512 calls", this::theLastOf512Calls);
    }

    private void produceAndCommit() {
        sentence("promise 2", "this value", this::producedValues);
        sentence("promise 2", "by what it knows, whatever the controller has", this::produceByWhatIsKnown);
        sentence("promise 2", "NONE if b does not lead (or is none)",
                this::produceOfNone, this::produceOfOneNotLeading);
        sentence("promise 2", "FULL if its log has 40 records", this::produceIntoFull);
        sentence("promise 2", "FEW if SYNC has fewer than LEAST brokers", this::produceWithFew);
        sentence("terms, promise 2", "the one that stands first in the method's comment is given",
                this::firstAnswerOfProduce);
        sentence("promise 3", "NONE if b does not lead (or is none)",
                this::commitOfNone, this::commitOfOneNotLeading);
        sentence("promise 3", "or offset is not 0 .. HW of b", this::commitAroundHwZero, this::commitAroundHw,
                this::commitBetweenHwAndEnd);
        sentence("promise 3", "FULL if its log has 40 records", this::commitIntoFull);
        sentence("promise 3", "FEW if SYNC has fewer than LEAST brokers", this::commitWithFew);
        sentence("terms, promise 3", "the one that stands first in the method's comment is given",
                this::firstAnswerOfCommit);
        sentence("terms", "the least of its own END and of what is FETCHED by each other broker in SYNC",
                this::hwWaitsForEachInSync);
        sentence("terms", "if that is more than its HW", this::hwNeverFalls);
    }

    private void consumers() {
        sentence("promise 4", "0 if b does not lead (or is none)",
                this::readableOfNone, this::readableOfOneNotLeading);
        sentence("promise 4", "or offset is not from 0 to below HW of b", this::readableInEmptyLog,
                this::readableAroundHw, this::readableInFullLog);
        sentence("promise 5", "NONE if b does not lead (or is none)", this::committedOfNone,
                this::committedOfOneNotLeading);
        sentence("promise 5", "or there is no MARK there", this::committedWithoutMark);
        sentence("promise 5", "The value of the latest MARK below the HW of broker b", this::markAroundHw,
                this::markAtFirstAndLastOffset);
    }

    private void looks() {
        sentence("promise 19", "made negative if it is a MARK", this::epochsOfMarks);
        sentence("promise 19", "0 if there is none", this::epochAtNoOffset, this::epochOfNoBroker);
        sentence("promise 20", "(UP or not)", this::valuesOfOneNotUp);
        sentence("promise 20", "0 if there is none, or no broker", this::valueAtNoOffset, this::valueOfNoBroker);
    }

    // Promise 1, and what bounds an object.

    private void lagAndItsRange() {
        for (int lag = 1; lag <= 20; lag++) {
            dueLag(lag, lag);
        }
        for (int low : new int[] {MIN, -20, -1, 0}) {
            dueLag(low, 1);
        }
        for (int high : new int[] {21, 22, 257, MAX}) {
            dueLag(high, 20);
        }
    }

    private void dueLag(int given, int lag) {
        InSyncLog x = new InSyncLog(given, 1, 1);
        x.tick(lag);
        due("review(0) at LAG, given " + given, 15, x.review(0));
        x.tick(1);
        due("review(0) beyond LAG, given " + given, 1, x.review(0));
    }

    private void batchAndItsRange() {
        for (int batch = 1; batch <= 3; batch++) {
            dueBatch(batch, batch);
        }
        for (int low : new int[] {MIN, -3, -1, 0}) {
            dueBatch(low, 1);
        }
        for (int high : new int[] {4, 5, 257, MAX}) {
            dueBatch(high, 3);
        }
    }

    private void dueBatch(int given, int batch) {
        InSyncLog x = new InSyncLog(1, given, 1);
        produceMany(x, 0, 5);
        x.fetch(1);
        x.deliver(0);
        due("records of a BATCH, given " + given, batch, x.message(0, 5));
        x.deliver(0);
        due("END after a BATCH, given " + given, batch, x.broker(1, 4));
    }

    private void leastAndItsRange() {
        for (int least = 1; least <= 3; least++) {
            dueLeast(least, least);
        }
        for (int low : new int[] {MIN, -3, -1, 0}) {
            dueLeast(low, 1);
        }
        for (int high : new int[] {4, 5, 257, MAX}) {
            dueLeast(high, 3);
        }
    }

    private void dueLeast(int given, int least) {
        for (int others = 0; others < 4; others++) {
            int want = others + 1 < least ? FEW : 0;
            due("produce with " + others + " others in SYNC, LEAST given as " + given,
                    want, inSyncWith(others, given).produce(0, 9));
        }
    }

    private void eachByItself() {
        InSyncLog x = new InSyncLog(MIN, MAX, MIN);
        produceMany(x, 0, 5);
        exchange(x, 1);
        due("END after one BATCH of 3", 3, x.broker(1, 4));
        x.tick(1);
        due("review(0), TIME 1", 15, x.review(0));
        x.tick(1);
        due("review(0), TIME 2", 1, x.review(0));
        due("produce with one in SYNC", 5, x.produce(0, 1));

        x = new InSyncLog(MAX, MIN, MAX);
        produceMany(x, 0, 5);
        exchange(x, 1);
        due("END after one BATCH of 1", 1, x.broker(1, 4));
        x.tick(20);
        due("review(0), TIME 20", 15, x.review(0));
        x.tick(1);
        due("review(0), TIME 21", 1, x.review(0));
        due("produce with one in SYNC", FEW, x.produce(0, 1));
    }

    private void fortyRecordsInEachLog() {
        // BATCH 3: the last BATCH has room for one record more, and there is one.
        InSyncLog x = fullAlone(1);
        for (int i = 0; i < 13; i++) {
            exchange(x, 1);
        }
        due("END of 1 after 13 exchanges", 39, x.broker(1, 4));
        x.fetch(1);
        x.deliver(0);
        dueMessage(x, 0, BATCH, 0, 1, 1, 14, 1, 40);
        x.deliver(0);
        due("END of 1", 40, x.broker(1, 4));
        due("HW of 1", 40, x.broker(1, 5));
        due("the last value", 139, x.valueAt(1, 39));
        x.fetch(1);
        dueMessage(x, 0, FETCH, 1, 0, 1, 15, 40, 1);
        x.deliver(0);
        dueMessage(x, 0, BATCH, 0, 1, 1, 15, 0, 40);
        x.deliver(0);
        due("END of 1, still", 40, x.broker(1, 4));
        due("review(0) with 40 FETCHED", 3, x.review(0));

        // The logs are apart: a full one leaves room in the others.
        x.crash(0);
        x.govern(0);
        x.learn(1);
        due("produce into the other full log", FULL, x.produce(1, 7));
        due("END of 2", 0, x.broker(2, 4));
        x.learn(2);
        exchange(x, 2);
        due("END of 2", 3, x.broker(2, 4));
    }

    private void theLastOf512Calls() {
        InSyncLog x = new InSyncLog(20, 3, 1);
        for (int call = 1; call < 512; call++) {
            due("call " + call + ", tick(50)", true, x.tick(50));
        }
        due("call 512, review(0)", 1, x.review(0));

        x = new InSyncLog(20, 3, 1);
        for (int call = 1; call < 512; call++) {
            due("call " + call + ", fetch(1)", true, x.fetch(1));
        }
        due("call 512, the latest number", 511, x.broker(1, 6));

        x = new InSyncLog(20, 3, 1);
        for (int call = 1; call < 512; call++) {
            due("call " + call + ", govern", true, x.govern(call % 2 == 1 ? 15 : 0));
        }
        due("call 512, EPOCH", 512, x.controller(0));
    }

    // Promise 2.

    private void producedValues() {
        int[] values = {MIN, MIN + 1, -3, -2, -1, 0, 1, 65536, MAX - 1, MAX};
        InSyncLog x = new InSyncLog(5, 3, 1);
        for (int i = 0; i < values.length; i++) {
            due("produce(0, " + values[i] + ")", i, x.produce(0, values[i]));
            due("its value", values[i], x.valueAt(0, i));
            due("its epoch, positive as of DATA", 1, x.epochAt(0, i));
        }
        for (int i = 0; i < 4; i++) {
            exchange(x, 1);
        }
        for (int i = 0; i < values.length; i++) {
            due("value " + i + " as fetched", values[i], x.valueAt(1, i));
        }
    }

    private void produceByWhatIsKnown() {
        InSyncLog x = counted();
        x.govern(1);
        due("produce of 0, which has not learned", 2, x.produce(0, 1));
        due("its epoch", 1, x.epochAt(0, 2));
        refused("produce of 1, which has not learned", NONE, this::countedWithLeaderUnaware, y -> y.produce(1, 1));
    }

    private InSyncLog countedWithLeaderUnaware() {
        InSyncLog x = counted();
        x.govern(1);
        return x;
    }

    private void produceOfNone() {
        for (int b : NO_BROKERS) {
            refused("produce(" + b + ", 1)", NONE, this::counted, x -> x.produce(b, 1));
        }
    }

    private void produceOfOneNotLeading() {
        for (int b = 1; b < 4; b++) {
            int f = b;
            refused("produce(" + f + ", 1)", NONE, this::counted, x -> x.produce(f, 1));
        }
        refused("produce when down", NONE, this::countedThenDown, x -> x.produce(0, 1));
        refused("produce before it learns", NONE, this::countedThenRestarted, x -> x.produce(0, 1));
        refused("produce without a leader", NONE, this::countedThenLeaderless, x -> x.produce(0, 1));
        refused("produce of one that follows", NONE, this::countedThenFollowing, x -> x.produce(0, 1));
    }

    private void produceIntoFull() {
        InSyncLog x = new InSyncLog(1, 3, 1);
        produceMany(x, 0, 39);
        due("produce into a log of 39", 39, x.produce(0, 5));
        due("produce into a log of 40", FULL, x.produce(0, 5));
        due("END", 40, x.broker(0, 4));
        due("the last value", 5, x.valueAt(0, 39));
        refused("produce into a full log, HW 0", FULL, this::fullUncounted, y -> y.produce(0, 5));
        refused("produce into a full log, HW 40", FULL, () -> fullAlone(1), y -> y.produce(0, 5));
        refused("produce into a full log, HW about to rise", FULL, () -> aboutToRise(40, 1), y -> y.produce(0, 5));
    }

    /** 40 records of broker 0, and HW 0. */
    private InSyncLog fullUncounted() {
        InSyncLog x = new InSyncLog(1, 3, 1);
        produceMany(x, 0, 40);
        return x;
    }

    private void produceWithFew() {
        for (int least = 1; least <= 3; least++) {
            int l = least;
            due("produce with LEAST " + l + " in SYNC", 0, inSyncWith(l - 1, l).produce(0, 5));
            due("produce with more in SYNC", 0, inSyncWith(l, l).produce(0, 5));
        }
        refused("produce, 1 in SYNC of 2", FEW, () -> inSyncWith(0, 2), x -> x.produce(0, 5));
        refused("produce, 1 in SYNC of 3", FEW, () -> inSyncWith(0, 3), x -> x.produce(0, 5));
        refused("produce, 2 in SYNC of 3", FEW, () -> inSyncWith(1, 3), x -> x.produce(0, 5));
        refused("produce, 1 in SYNC of 2, HW about to rise", FEW, () -> aboutToRise(3, 2), x -> x.produce(0, 5));

        // SYNC counts, not ISR: it is as the leader learned it, and not as it has become.
        InSyncLog x = new InSyncLog(5, 3, 2);
        x.govern(14);
        due("ISR", 1, x.controller(2));
        due("produce, SYNC is of four yet", 0, x.produce(0, 5));
        x.learn(0);
        due("produce, SYNC is of one", FEW, x.produce(0, 5));
    }

    private void firstAnswerOfProduce() {
        due("NONE before FULL, a follower with a full log", NONE, fullFollower().produce(1, 5));
        InSyncLog x = fullAlone(1);
        x.crash(0);
        due("NONE before FULL, a full leader down", NONE, x.produce(0, 5));
        x = inSyncWith(0, 3);
        x.crash(0);
        x.restart(0);
        due("NONE before FEW", NONE, x.produce(0, 5));
        due("NONE before FEW, a follower", NONE, inSyncWith(0, 3).produce(1, 5));
        refused("FULL before FEW", FULL, () -> fullAlone(2), y -> y.produce(0, 5));
        x = fullAlone(3);
        x.crash(0);
        due("NONE before FULL and FEW", NONE, x.produce(0, 5));
    }

    /** Brokers 0, which leads, and 1 have 40 records each. */
    private InSyncLog fullFollower() {
        InSyncLog x = fullAlone(1);
        for (int i = 0; i < 14; i++) {
            exchange(x, 1);
        }
        return x;
    }

    // Promise 3.

    private void commitOfNone() {
        for (int b : NO_BROKERS) {
            refused("commit(" + b + ", 0)", NONE, this::counted, x -> x.commit(b, 0));
        }
    }

    private void commitOfOneNotLeading() {
        for (int b = 1; b < 4; b++) {
            int f = b;
            refused("commit(" + f + ", 0)", NONE, this::counted, x -> x.commit(f, 0));
        }
        refused("commit when down", NONE, this::countedThenDown, x -> x.commit(0, 0));
        refused("commit before it learns", NONE, this::countedThenRestarted, x -> x.commit(0, 0));
        refused("commit without a leader", NONE, this::countedThenLeaderless, x -> x.commit(0, 0));
        refused("commit of one that follows", NONE, this::countedThenFollowing, x -> x.commit(0, 0));
    }

    private void commitAroundHwZero() {
        InSyncLog x = new InSyncLog(5, 3, 1);
        due("commit(0, 0), HW 0 and an empty log", 0, x.commit(0, 0));
        dueLog(x, 0, -1, 0);
        for (int offset : new int[] {1, 2, -1, 40, MIN, MAX}) {
            refused("commit(0, " + offset + "), HW 0", NONE,
                () -> new InSyncLog(5, 3, 1), y -> y.commit(0, offset));
        }
    }

    private void commitAroundHw() {
        for (int offset = 0; offset <= 2; offset++) {
            InSyncLog x = counted();
            due("commit(0, " + offset + "), HW 2", 2, x.commit(0, offset));
            due("its value", offset, x.valueAt(0, 2));
            due("its epoch, negative as of a MARK", -1, x.epochAt(0, 2));
        }
        for (int offset : new int[] {3, 4, -1, -2, 258, 65536, MIN, MIN + 2, MAX}) {
            refused("commit(0, " + offset + "), HW 2", NONE, this::counted, y -> y.commit(0, offset));
        }
    }

    private void commitBetweenHwAndEnd() {
        InSyncLog x = counted();
        produceMany(x, 0, 3);
        due("END", 5, x.broker(0, 4));
        due("HW", 2, x.broker(0, 5));
        due("commit(0, 3), below END", NONE, x.commit(0, 3));
        due("commit(0, 5), END", NONE, x.commit(0, 5));
        due("commit(0, 2), HW", 5, x.commit(0, 2));
        refused("commit(0, 1), HW 0 about to rise to 3", NONE, () -> aboutToRise(3, 1), y -> y.commit(0, 1));
    }

    private void commitIntoFull() {
        InSyncLog x = alone(3, 1);
        produceMany(x, 0, 39);
        due("commit(0, 39) into a log of 39, all of which count", 39, x.commit(0, 39));
        due("END", 40, x.broker(0, 4));
        due("the last epoch", -1, x.epochAt(0, 39));
        due("the last value", 39, x.valueAt(0, 39));
        due("HW", 40, x.broker(0, 5));
        refused("commit(0, 0) into a full log", FULL, () -> fullAlone(1), y -> y.commit(0, 0));
        refused("commit(0, 40) into a full log", FULL, () -> fullAlone(1), y -> y.commit(0, 40));
        refused("commit(0, 0) into a full log, HW 0", FULL, this::fullUncounted, y -> y.commit(0, 0));
        refused("commit(0, 0) into a full log, HW about to rise", FULL,
                () -> aboutToRise(40, 1), y -> y.commit(0, 0));
    }

    private void commitWithFew() {
        for (int least = 1; least <= 3; least++) {
            due("commit with LEAST " + least + " in SYNC", 0, inSyncWith(least - 1, least).commit(0, 0));
        }
        refused("commit, 1 in SYNC of 2", FEW, () -> inSyncWith(0, 2), x -> x.commit(0, 0));
        refused("commit, 1 in SYNC of 3", FEW, () -> inSyncWith(0, 3), x -> x.commit(0, 0));
        refused("commit, 2 in SYNC of 3", FEW, () -> inSyncWith(1, 3), x -> x.commit(0, 0));
        refused("commit, 1 in SYNC of 2, HW about to rise", FEW, () -> aboutToRise(3, 2), x -> x.commit(0, 0));
    }

    private void firstAnswerOfCommit() {
        due("NONE for a follower before FULL", NONE, fullFollower().commit(1, 0));
        refused("NONE for offset 41 before FULL", NONE, () -> fullAlone(1), x -> x.commit(0, 41));
        refused("NONE for offset -1 before FULL", NONE, () -> fullAlone(1), x -> x.commit(0, -1));
        due("NONE for a follower before FEW", NONE, inSyncWith(0, 3).commit(1, 0));
        refused("NONE for offset 1 before FEW", NONE, () -> inSyncWith(0, 3), x -> x.commit(0, 1));
        refused("NONE for offset -1 before FEW", NONE, () -> inSyncWith(0, 3), x -> x.commit(0, -1));
        refused("FULL before FEW", FULL, () -> fullAlone(2), x -> x.commit(0, 0));
        refused("NONE for offset 41 before FULL and FEW", NONE, () -> fullAlone(3), x -> x.commit(0, 41));
        InSyncLog x = fullAlone(3);
        x.crash(0);
        due("NONE when down before FULL and FEW", NONE, x.commit(0, 0));
    }

    private void hwWaitsForEachInSync() {
        for (int leader = 0; leader < 4; leader++) {
            for (int slow = 0; slow < 4; slow++) {
                if (slow != leader) {
                    dueHwHeldBack(leader, slow);
                }
            }
        }
    }

    private void dueHwHeldBack(int leader, int slow) {
        InSyncLog x = allInSync(leader);
        produceMany(x, leader, 3);
        for (int f = 0; f < 4; f++) {
            for (int i = 0; i < 3 && f != leader && f != slow; i++) {
                exchange(x, f);
            }
        }
        due("HW of " + leader + ", " + slow + " has FETCHED 0", 0, x.broker(leader, 5));
        exchange(x, slow);
        due("HW of " + leader + ", " + slow + " has FETCHED 0", 0, x.broker(leader, 5));
        exchange(x, slow);
        due("HW of " + leader + ", " + slow + " has FETCHED 2", 2, x.broker(leader, 5));
        exchange(x, slow);
        due("HW of " + leader + ", all have FETCHED 3", 3, x.broker(leader, 5));
    }

    /** An object with empty logs and BATCH 2 whose given broker leads, with all four in SYNC. */
    private InSyncLog allInSync(int leader) {
        InSyncLog x = new InSyncLog(20, 2, 1);
        x.govern(15);
        x.govern(15 - (1 << leader));
        for (int k = 0; k < 4; k++) {
            x.learn((leader + k) % 4);
        }
        for (int f = 0; f < 4; f++) {
            if (f != leader) {
                exchange(x, f);
            }
        }
        due("review(" + leader + ")", 15, x.review(leader));
        return x;
    }

    private void hwNeverFalls() {
        // HW is 2; then the leader learns anew, and of no other broker it knows what is FETCHED.
        InSyncLog x = counted();
        x.crash(0);
        x.restart(0);
        x.learn(0);
        due("HW as learned", 2, x.broker(0, 5));
        due("produce", 2, x.produce(0, 1));
        due("HW after produce", 2, x.broker(0, 5));
        due("commit", 3, x.commit(0, 2));
        due("HW after commit", 2, x.broker(0, 5));
        due("review", 15, x.review(0));
        due("HW after review", 2, x.broker(0, 5));
        x.learn(1);
        exchange(x, 1);
        due("HW after a FETCH", 2, x.broker(0, 5));
        due("HW of 1 after a BATCH", 2, x.broker(1, 5));
    }

    // Promise 4.

    private void readableOfNone() {
        for (int b : NO_BROKERS) {
            due("readable(" + b + ", 0)", 0, counted().readable(b, 0));
        }
    }

    private void readableOfOneNotLeading() {
        for (int b = 1; b < 4; b++) {
            InSyncLog x = counted();
            due("HW of " + b, 2, x.broker(b, 5));
            due("readable(" + b + ", 0)", 0, x.readable(b, 0));
            due("readable(" + b + ", 1)", 0, x.readable(b, 1));
        }
        due("readable before all this", 1, counted().readable(0, 0));
        due("readable when down", 0, countedThenDown().readable(0, 0));
        due("readable before it learns", 0, countedThenRestarted().readable(0, 0));
        due("readable without a leader", 0, countedThenLeaderless().readable(0, 0));
        due("readable of one that follows", 0, countedThenFollowing().readable(0, 0));
    }

    private void readableInEmptyLog() {
        InSyncLog x = new InSyncLog(5, 3, 1);
        due("readable(0, 0)", 0, x.readable(0, 0));
        due("readable(0, 1)", 0, x.readable(0, 1));
        for (int offset : NO_OFFSETS) {
            due("readable(0, " + offset + ")", 0, x.readable(0, offset));
        }
    }

    private void readableAroundHw() {
        InSyncLog x = counted();
        produceMany(x, 0, 3);
        due("readable(0, 0), DATA", 1, x.readable(0, 0));
        due("readable(0, 1), a MARK, the last below HW", 2, x.readable(0, 1));
        due("readable(0, 2), at HW", 0, x.readable(0, 2));
        due("readable(0, 3), above HW", 0, x.readable(0, 3));
        due("readable(0, 4), below END", 0, x.readable(0, 4));
        due("readable(0, 5), at END", 0, x.readable(0, 5));
        due("readable(0, 6), above END", 0, x.readable(0, 6));
        for (int offset : NO_OFFSETS) {
            due("readable(0, " + offset + ")", 0, x.readable(0, offset));
        }
    }

    private void readableInFullLog() {
        InSyncLog x = fullAlone(1);
        for (int offset = 0; offset < 40; offset++) {
            due("readable(0, " + offset + ")", 1, x.readable(0, offset));
        }
        for (int offset : NO_OFFSETS) {
            due("readable(0, " + offset + ")", 0, x.readable(0, offset));
        }
        x = alone(3, 1);
        produceMany(x, 0, 39);
        x.commit(0, 0);
        due("readable(0, 39), a MARK", 2, x.readable(0, 39));
        due("readable(0, 38), DATA", 1, x.readable(0, 38));
    }

    // Promise 5.

    private void committedOfNone() {
        for (int b : NO_BROKERS) {
            refused("committed(" + b + ")", NONE, this::counted, x -> x.committed(b));
        }
    }

    private void committedOfOneNotLeading() {
        due("committed before all this", 0, counted().committed(0));
        for (int b = 1; b < 4; b++) {
            due("committed(" + b + ")", NONE, counted().committed(b));
        }
        due("committed when down", NONE, countedThenDown().committed(0));
        due("committed before it learns", NONE, countedThenRestarted().committed(0));
        due("committed without a leader", NONE, countedThenLeaderless().committed(0));
        due("committed of one that follows", NONE, countedThenFollowing().committed(0));
    }

    private void committedWithoutMark() {
        due("committed(0), an empty log", NONE, new InSyncLog(5, 3, 1).committed(0));
        due("committed(0), 40 records of DATA", NONE, fullAlone(1).committed(0));
        InSyncLog x = new InSyncLog(5, 3, 1);
        x.commit(0, 0);
        due("committed(0), a MARK, but HW 0", NONE, x.committed(0));
    }

    private void markAroundHw() {
        InSyncLog x = counted();
        due("committed(0), a MARK next below HW", 0, x.committed(0));
        x.commit(0, 2);
        due("committed(0), a later MARK at HW", 0, x.committed(0));
        exchangeAll(x);
        exchangeAll(x);
        due("HW", 3, x.broker(0, 5));
        due("committed(0), that MARK is below HW now", 2, x.committed(0));
        x.commit(0, 1);
        exchangeAll(x);
        exchangeAll(x);
        due("committed(0), the latest and not the greatest", 1, x.committed(0));
    }

    private void markAtFirstAndLastOffset() {
        InSyncLog x = alone(3, 1);
        x.commit(0, 0);
        due("committed(0), one MARK", 0, x.committed(0));
        produceMany(x, 0, 38);
        due("committed(0), a MARK at offset 0", 0, x.committed(0));
        x.commit(0, 39);
        due("committed(0), a MARK at offset 39", 39, x.committed(0));
    }

    // Promises 19 and 20.

    private void epochsOfMarks() {
        InSyncLog x = new InSyncLog(5, 3, 1);
        x.produce(0, 1);
        x.commit(0, 0);
        x.govern(8);
        x.learn(0);
        x.commit(0, 0);
        x.produce(0, 1);
        dueLog(x, 0, 1, 1, -1, 0, -2, 0, 2, 1);
        x.learn(1);
        exchange(x, 1);
        dueLog(x, 1, 1, 1, -1, 0, -2, 0);
    }

    private void epochAtNoOffset() {
        due("epochAt(0, 0), an empty log", 0, new InSyncLog(5, 3, 1).epochAt(0, 0));
        InSyncLog x = counted();
        due("epochAt(0, 1), the last", -1, x.epochAt(0, 1));
        due("epochAt(0, 2), at END", 0, x.epochAt(0, 2));
        for (int offset : NO_OFFSETS) {
            due("epochAt(0, " + offset + ")", 0, x.epochAt(0, offset));
        }
        x = fullAlone(1);
        due("epochAt(0, 39)", 1, x.epochAt(0, 39));
        for (int offset : NO_OFFSETS) {
            due("epochAt(0, " + offset + "), a full log", 0, x.epochAt(0, offset));
        }
        x = split();
        due("epochAt(0, 2) before a CUT", 1, x.epochAt(0, 2));
        exchange(x, 0);
        due("epochAt(0, 0) after a CUT", 1, x.epochAt(0, 0));
        due("epochAt(0, 1) after a CUT", 0, x.epochAt(0, 1));
        due("epochAt(0, 2) after a CUT", 0, x.epochAt(0, 2));
    }

    private void epochOfNoBroker() {
        InSyncLog x = counted();
        for (int b : NO_BROKERS) {
            due("epochAt(" + b + ", 0)", 0, x.epochAt(b, 0));
        }
        x.crash(0);
        due("epochAt of one not UP", 1, x.epochAt(0, 0));
    }

    private void valuesOfOneNotUp() {
        InSyncLog x = counted();
        x.crash(0);
        x.crash(3);
        due("valueAt(0, 0), down", 50, x.valueAt(0, 0));
        due("valueAt(3, 0), down", 50, x.valueAt(3, 0));
        x.restart(3);
        due("valueAt(3, 0), restarted", 50, x.valueAt(3, 0));
        due("valueAt(1, 0), UP", 50, x.valueAt(1, 0));
    }

    private void valueAtNoOffset() {
        due("valueAt(0, 0), an empty log", 0, new InSyncLog(5, 3, 1).valueAt(0, 0));
        InSyncLog x = alone(3, 1);
        x.produce(0, 7);
        x.commit(0, 1);
        due("valueAt(0, 1), a MARK, the last", 1, x.valueAt(0, 1));
        due("valueAt(0, 2), at END", 0, x.valueAt(0, 2));
        for (int offset : NO_OFFSETS) {
            due("valueAt(0, " + offset + ")", 0, x.valueAt(0, offset));
        }
        x = fullAlone(1);
        due("valueAt(0, 0)", 100, x.valueAt(0, 0));
        due("valueAt(0, 39)", 139, x.valueAt(0, 39));
        for (int offset : NO_OFFSETS) {
            due("valueAt(0, " + offset + "), a full log", 0, x.valueAt(0, offset));
        }
        x = split();
        due("valueAt(0, 2) before a CUT", 12, x.valueAt(0, 2));
        exchange(x, 0);
        due("valueAt(0, 0) after a CUT", 10, x.valueAt(0, 0));
        due("valueAt(0, 1) after a CUT", 0, x.valueAt(0, 1));
        due("valueAt(0, 2) after a CUT", 0, x.valueAt(0, 2));
    }

    private void valueOfNoBroker() {
        InSyncLog x = counted();
        for (int b : NO_BROKERS) {
            due("valueAt(" + b + ", 0)", 0, x.valueAt(b, 0));
        }
    }
}
