/** For each promise of the document: ordinary runs of calls, with edges and wrong inputs among them. */
public final class PromisesTest extends Bench {
    public static void main(String[] args) {
        PromisesTest test = new PromisesTest();
        test.whatCountsIsKept();
        test.newObject();
        test.produce();
        test.produceRefused();
        test.commit();
        test.readable();
        test.committed();
        test.fetch();
        test.deliverFetch();
        test.deliverFetchInVain();
        test.deliverBatch();
        test.deliverReplyInVain();
        test.deliverCut();
        test.deliverCutByFollowersEpochs();
        test.deliverCutToNothing();
        test.deliverWithFullChannel();
        test.batchHoldsRecordsAsTheyWere();
        test.lose();
        test.flight();
        test.message();
        test.reviewByLag();
        test.reviewByFetched();
        test.reviewByStart();
        test.reviewRefused();
        test.learn();
        test.learnAgainAfterCrash();
        test.crash();
        test.restart();
        test.governLosesFollower();
        test.governLosesLeader();
        test.governLosesAll();
        test.governSuspects();
        test.tick();
        test.controller();
        test.broker();
        test.records();
        test.checks.finish();
    }

    // What it is.

    private void whatCountsIsKept() {
        checks.part("what it is, whoever leads later has it, too");
        InSyncLog x = new InSyncLog(5, 3, 1);
        x.produce(0, 10);
        for (int b = 1; b < 4; b++) {
            fetchTwiceAbove(x, b - 1);
            due("the last record of " + (b - 1) + " counts", 1, x.readable(b - 1, b - 1));
            x.crash(b - 1);
            due("govern(0)", true, x.govern(0));
            dueController(x, b + 1, b, 15 >> b << b);
            for (int f = b; f < 4; f++) {
                due("learn(" + f + ")", true, x.learn(f));
            }
            due("produce(" + b + ")", b, x.produce(b, 10 + b));
        }
        dueLog(x, 3, 1, 10, 2, 11, 3, 12, 4, 13);

        // Broker 0 is back with the first record alone, and leads once it has them all.
        x.restart(0);
        x.learn(0);
        dueLog(x, 0, 1, 10);
        due("review(3), 0 has FETCHED nothing", 8, x.review(3));
        exchange(x, 0);
        exchange(x, 0);
        due("review(3), 0 has them all", 9, x.review(3));
        x.crash(3);
        x.govern(0);
        dueController(x, 5, 0, 1);
        x.learn(0);
        dueLog(x, 0, 1, 10, 2, 11, 3, 12, 4, 13);
        due("HW of 0", 4, x.broker(0, 5));
        due("produce(0)", 4, x.produce(0, 14));
    }

    private void fetchTwiceAbove(InSyncLog x, int leader) {
        for (int f = leader + 1; f < 4; f++) {
            exchange(x, f);
            exchange(x, f);
        }
    }

    // Promise 1.

    private void newObject() {
        checks.part("promise 1, at first");
        InSyncLog x = new InSyncLog(5, 2, 2);
        due("NONE", NONE, InSyncLog.NONE);
        due("FULL", FULL, InSyncLog.FULL);
        due("FEW", FEW, InSyncLog.FEW);
        dueController(x, 1, 0, 15);
        dueBroker(x, 0, 1, 1, 0, 15, 0, 0, 0);
        for (int b = 1; b < 4; b++) {
            dueBroker(x, b, 1, 1, 0, 0, 0, 0, 0);
        }
        due("flight()", 0, x.flight());
        InSyncLog y = new InSyncLog(5, 2, 2);
        x.produce(0, 3);
        x.fetch(1);
        x.crash(2);
        due("END in another object", 0, y.broker(0, 4));
        due("flight() of another object", 0, y.flight());
        due("UP in another object", 1, y.broker(2, 0));
    }

    // Promise 2.

    private void produce() {
        checks.part("promise 2");
        InSyncLog x = new InSyncLog(5, 3, 2);
        due("produce(0, 7)", 0, x.produce(0, 7));
        due("produce(0, MIN)", 1, x.produce(0, MIN));
        due("produce(0, MAX)", 2, x.produce(0, MAX));
        dueLog(x, 0, 1, 7, 1, MIN, 1, MAX);
        due("HW with four in SYNC", 0, x.broker(0, 5));

        x = alone(1, 1);
        due("produce alone", 0, x.produce(0, 7));
        due("HW rises at once", 1, x.broker(0, 5));
        due("the record is DATA", 1, x.readable(0, 0));

        x = new InSyncLog(5, 3, 1);
        due("govern away from the leader", true, x.govern(1));
        due("produce by what 0 knows", 0, x.produce(0, 70));
        due("produce of 1, which has not learned", NONE, x.produce(1, 71));
        x.learn(1);
        due("produce of 1", 0, x.produce(1, 71));
        due("produce of 0, still", 1, x.produce(0, 72));
        dueLog(x, 0, 1, 70, 1, 72);
        dueLog(x, 1, 2, 71);
    }

    private void produceRefused() {
        checks.part("promise 2, refused");
        InSyncLog x = new InSyncLog(5, 3, 1);
        for (int b : NO_BROKERS) {
            due("produce(" + b + ", 1)", NONE, x.produce(b, 1));
        }
        for (int b = 1; b < 4; b++) {
            due("produce(" + b + ", 1)", NONE, x.produce(b, 1));
        }
        for (int i = 0; i < 40; i++) {
            due("produce " + i, i, x.produce(0, i));
        }
        due("produce into a full log", FULL, x.produce(0, 40));
        due("END of a full log", 40, x.broker(0, 4));
        due("produce of a follower beside a full log", NONE, x.produce(1, 40));
        x.crash(0);
        due("produce when down", NONE, x.produce(0, 1));
        x.restart(0);
        due("produce before it learns", NONE, x.produce(0, 1));

        x = new InSyncLog(5, 3, 3);
        for (int i = 0; i < 39; i++) {
            x.produce(0, i);
        }
        x.tick(6);
        x.review(0);
        due("produce with few", FEW, x.produce(0, 39));
        due("END after FEW", 39, x.broker(0, 4));
        x = new InSyncLog(5, 3, 3);
        for (int i = 0; i < 40; i++) {
            x.produce(0, i);
        }
        x.tick(6);
        x.review(0);
        due("FULL stands before FEW", FULL, x.produce(0, 40));
    }

    // Promise 3.

    private void commit() {
        checks.part("promise 3");
        InSyncLog x = alone(1, 1);
        due("commit(0, 1) above HW", NONE, x.commit(0, 1));
        due("commit(0, 0)", 0, x.commit(0, 0));
        due("HW rises at once", 1, x.broker(0, 5));
        due("commit(0, 1) at HW", 1, x.commit(0, 1));
        due("commit(0, 3) above HW", NONE, x.commit(0, 3));
        due("commit(0, -1)", NONE, x.commit(0, -1));
        due("commit(0, MIN)", NONE, x.commit(0, MIN));
        due("commit(0, MAX)", NONE, x.commit(0, MAX));
        dueLog(x, 0, -1, 0, -1, 1);
        due("a MARK is readable as such", 2, x.readable(0, 0));
        for (int b : NO_BROKERS) {
            due("commit(" + b + ", 0)", NONE, x.commit(b, 0));
        }
        due("commit(1, 0)", NONE, x.commit(1, 0));
        for (int i = 2; i < 40; i++) {
            due("commit " + i, i, x.commit(0, 0));
        }
        due("commit into a full log", FULL, x.commit(0, 0));
        due("NONE stands before FULL", NONE, x.commit(0, 41));
        x.crash(0);
        due("commit when down", NONE, x.commit(0, 0));

        x = new InSyncLog(1, 1, 2);
        x.produce(0, 5);
        due("HW counts, not END", NONE, x.commit(0, 1));
        x.tick(2);
        x.review(0);
        due("commit with few", FEW, x.commit(0, 1));
        due("NONE stands before FEW", NONE, x.commit(0, 2));
        due("END after FEW", 1, x.broker(0, 4));
        x = new InSyncLog(1, 1, 2);
        for (int i = 0; i < 40; i++) {
            x.produce(0, i);
        }
        x.tick(2);
        x.review(0);
        due("FULL stands before FEW", FULL, x.commit(0, 0));
    }

    // Promise 4.

    private void readable() {
        checks.part("promise 4");
        InSyncLog x = new InSyncLog(5, 3, 1);
        x.produce(0, 1);
        x.commit(0, 0);
        x.produce(0, 3);
        exchangeAll(x);
        x.produce(0, 4);
        due("readable before HW rises", 0, x.readable(0, 0));
        exchangeAll(x);
        due("HW", 3, x.broker(0, 5));
        due("readable(0, 0), DATA", 1, x.readable(0, 0));
        due("readable(0, 1), a MARK", 2, x.readable(0, 1));
        due("readable(0, 2), below HW", 1, x.readable(0, 2));
        due("readable(0, 3), at HW", 0, x.readable(0, 3));
        due("readable(0, 4), at END", 0, x.readable(0, 4));
        due("readable(0, -1)", 0, x.readable(0, -1));
        due("readable(0, MIN)", 0, x.readable(0, MIN));
        due("readable(0, MAX)", 0, x.readable(0, MAX));
        exchange(x, 1);
        due("HW of 1", 3, x.broker(1, 5));
        due("readable(1, 0), a follower", 0, x.readable(1, 0));
        for (int b : NO_BROKERS) {
            due("readable(" + b + ", 0)", 0, x.readable(b, 0));
        }
        x.govern(1);
        due("readable of a leader of old", 1, x.readable(0, 0));
        x.learn(0);
        due("readable of one that leads no more", 0, x.readable(0, 0));
        x.learn(1);
        due("readable of the new leader", 2, x.readable(1, 1));
        x.crash(1);
        due("readable when down", 0, x.readable(1, 1));
    }

    // Promise 5.

    private void committed() {
        checks.part("promise 5");
        InSyncLog x = new InSyncLog(5, 3, 1);
        due("committed(0) of nothing", NONE, x.committed(0));
        x.produce(0, 77);
        exchangeAll(x);
        exchangeAll(x);
        due("committed(0) without a MARK", NONE, x.committed(0));
        due("commit(0, 1)", 1, x.commit(0, 1));
        due("committed(0), MARK at HW", NONE, x.committed(0));
        exchangeAll(x);
        exchangeAll(x);
        due("committed(0), MARK below HW", 1, x.committed(0));
        due("commit(0, 0)", 2, x.commit(0, 0));
        x.produce(0, 78);
        due("committed(0), a later MARK at HW", 1, x.committed(0));
        exchangeAll(x);
        exchangeAll(x);
        due("committed(0), the latest, not the greatest", 0, x.committed(0));
        exchangeAll(x);
        due("committed(1), a follower", NONE, x.committed(1));
        for (int b : NO_BROKERS) {
            due("committed(" + b + ")", NONE, x.committed(b));
        }
        x.crash(0);
        due("committed(0) when down", NONE, x.committed(0));
        x.govern(0);
        x.learn(1);
        due("committed(1), which leads", 0, x.committed(1));

        x = alone(1, 1);
        x.commit(0, 0);
        x.produce(0, 5);
        due("committed(0), a MARK at offset 0", 0, x.committed(0));
    }

    // Promise 6.

    private void fetch() {
        checks.part("promise 6");
        InSyncLog x = new InSyncLog(5, 3, 1);
        for (int b : NO_BROKERS) {
            due("fetch(" + b + ")", false, x.fetch(b));
        }
        due("fetch(0), the leader", false, x.fetch(0));
        due("flight() after false", 0, x.flight());
        due("number after false", 0, x.broker(0, 6));
        x.produce(0, 5);
        x.produce(0, 6);
        due("fetch(2)", true, x.fetch(2));
        dueMessage(x, 0, FETCH, 2, 0, 1, 1, 0, 0);
        x.deliver(0);
        x.deliver(0);
        due("fetch(2) again", true, x.fetch(2));
        dueMessage(x, 0, FETCH, 2, 0, 1, 2, 2, 1);
        x.crash(0);
        due("fetch(3), leader not UP", true, x.fetch(3));
        dueMessage(x, 1, FETCH, 3, 0, 1, 1, 0, 0);
        x.crash(2);
        due("fetch(2) when down", false, x.fetch(2));
        x.restart(2);
        due("fetch(2), no leader known", false, x.fetch(2));
        x.govern(0);
        x.learn(2);
        due("number outlasts a crash", 2, x.broker(2, 6));
        due("fetch(2) to the new leader", true, x.fetch(2));
        dueMessage(x, 2, FETCH, 2, 1, 2, 3, 2, 1);

        x = new InSyncLog(5, 3, 1);
        for (int i = 0; i < 9; i++) {
            due("fetch(1), also if lost", true, x.fetch(1));
        }
        due("flight()", 8, x.flight());
        due("number of a lost FETCH", 9, x.broker(1, 6));

        x = new InSyncLog(5, 3, 1);
        x.govern(15);
        dueController(x, 2, NONE, 15);
        x.learn(1);
        x.learn(0);
        due("fetch(1), the leader it knows of is NONE", false, x.fetch(1));
        due("fetch(0), the leader it knows of is NONE", false, x.fetch(0));
        due("fetch(2), which has not learned that", true, x.fetch(2));
    }

    // Promise 7, with what happens by a delivery.

    private void deliverFetch() {
        checks.part("promise 7, a FETCH");
        InSyncLog x = new InSyncLog(5, 2, 1);
        due("deliver(0) of none", false, x.deliver(0));
        due("deliver(-1)", false, x.deliver(-1));
        due("deliver(MAX)", false, x.deliver(MAX));
        due("deliver(MIN)", false, x.deliver(MIN));
        x.fetch(1);
        due("deliver(1) of one", false, x.deliver(1));
        due("deliver(0)", true, x.deliver(0));
        due("a BATCH without records", 1, x.flight());
        dueMessage(x, 0, BATCH, 0, 1, 1, 1, 0, 0);
        x.deliver(0);
        for (int i = 0; i < 3; i++) {
            x.produce(0, 10 + i);
        }
        x.fetch(1);
        x.fetch(2);
        x.fetch(3);
        due("deliver(1), the middle one", true, x.deliver(1));
        dueMessage(x, 0, FETCH, 1);
        dueMessage(x, 1, FETCH, 3);
        dueMessage(x, 2, BATCH, 0, 2, 1, 1, 2, 0);
        x.deliver(0);
        x.deliver(0);
        dueMessage(x, 0, BATCH, 0, 2);
        x.deliver(0);
        x.deliver(0);
        x.deliver(0);
        for (int f = 1; f < 4; f++) {
            dueLog(x, f, 1, 10, 1, 11);
        }
        x.fetch(1);
        x.deliver(0);
        dueMessage(x, 0, BATCH, 0, 1, 1, 3, 1, 0);
        x.deliver(0);
        exchange(x, 1);
        exchange(x, 2);
        due("HW while 3 has fetched nothing", 0, x.broker(0, 5));
        x.fetch(3);
        x.deliver(0);
        due("HW when all have fetched 2", 2, x.broker(0, 5));
        dueMessage(x, 0, BATCH, 0, 3, 1, 2, 1, 2);
    }

    private void deliverFetchInVain() {
        checks.part("promise 7, a FETCH in vain");
        InSyncLog x = new InSyncLog(5, 2, 1);
        x.fetch(1);
        x.crash(0);
        due("deliver to one not UP", true, x.deliver(0));
        due("flight()", 0, x.flight());
        x.restart(0);
        x.fetch(1);
        due("deliver to one that has not learned", true, x.deliver(0));
        due("flight()", 0, x.flight());
        x.learn(0);
        x.fetch(1);
        x.crash(3);
        x.govern(0);
        x.learn(0);
        due("deliver to a leader in another epoch", true, x.deliver(0));
        due("flight()", 0, x.flight());
        x.learn(1);
        x.govern(1);
        x.learn(0);
        x.fetch(1);
        due("deliver to one that leads no more", true, x.deliver(0));
        due("flight()", 0, x.flight());

        // A late FETCH of less than was FETCHED already takes nothing back.
        x = new InSyncLog(5, 3, 1);
        x.produce(0, 1);
        x.fetch(1);
        exchangeLast(x, 1, 2);
        x.deliver(0);
        exchangeLast(x, 2, 2);
        exchangeLast(x, 3, 2);
        due("HW, FETCHED not less than it was", 1, x.broker(0, 5));
    }

    private void deliverBatch() {
        checks.part("promise 7, a BATCH");
        InSyncLog x = new InSyncLog(5, 1, 1);
        x.produce(0, 10);
        x.commit(0, 0);
        x.produce(0, 12);
        exchange(x, 1);
        dueLog(x, 1, 1, 10);
        exchange(x, 1);
        dueLog(x, 1, 1, 10, -1, 0);
        due("HW of 1", 0, x.broker(1, 5));
        x.tick(6);
        x.review(0);
        due("HW of 0, alone", 3, x.broker(0, 5));
        exchange(x, 2);
        due("HW of 2 is its END, less than that of the BATCH", 1, x.broker(2, 5));
        exchange(x, 1);
        due("HW of 1", 3, x.broker(1, 5));
        x.produce(0, 13);
        exchange(x, 1);
        due("END of 1", 4, x.broker(1, 4));
        due("HW of 1", 4, x.broker(1, 5));

        // A new leader's HW may be behind that of its followers; theirs does not fall.
        x = new InSyncLog(5, 3, 1);
        x.produce(0, 1);
        exchangeAll(x);
        exchangeAll(x);
        exchange(x, 2);
        due("HW of 2", 1, x.broker(2, 5));
        due("HW of 1", 0, x.broker(1, 5));
        x.crash(0);
        x.govern(0);
        x.learn(1);
        x.learn(2);
        exchange(x, 2);
        due("HW of 2 stays", 1, x.broker(2, 5));
    }

    private void deliverReplyInVain() {
        checks.part("promise 7, a reply in vain");
        InSyncLog x = new InSyncLog(5, 1, 1);
        x.produce(0, 10);
        x.produce(0, 11);

        x.fetch(1);
        x.deliver(0);
        x.crash(1);
        due("deliver to one not UP", true, x.deliver(0));
        due("END of 1", 0, x.broker(1, 4));
        x.restart(1);
        x.learn(1);

        x.fetch(1);
        x.deliver(0);
        x.crash(1);
        x.restart(1);
        due("deliver to one that has not learned", true, x.deliver(0));
        due("END of 1", 0, x.broker(1, 4));
        x.learn(1);

        x.fetch(1);
        x.deliver(0);
        x.crash(1);
        x.restart(1);
        x.learn(1);
        due("the number is the latest", x.broker(1, 6), x.message(0, 4));
        due("deliver of a FETCH AWAITED no more", true, x.deliver(0));
        due("END of 1", 0, x.broker(1, 4));

        x.fetch(1);
        x.deliver(0);
        x.fetch(1);
        x.deliver(1);
        due("deliver of another number than the latest", true, x.deliver(0));
        due("END of 1", 0, x.broker(1, 4));
        due("deliver of the latest", true, x.deliver(0));
        due("END of 1", 1, x.broker(1, 4));

        // Another epoch than the one f knows of.
        x.fetch(1);
        x.deliver(0);
        x.crash(3);
        x.govern(0);
        x.learn(1);
        due("deliver of an epoch that is past", true, x.deliver(0));
        due("END of 1", 1, x.broker(1, 4));
        due("flight()", 0, x.flight());

        x.learn(0);
        exchange(x, 1);
        due("END of 1", 2, x.broker(1, 4));
    }

    private void deliverCut() {
        checks.part("promise 7, a CUT");
        InSyncLog x = split();
        x.produce(1, 21);
        x.fetch(0);
        x.deliver(0);
        due("one reply", 1, x.flight());
        dueMessage(x, 0, CUT, 1, 0, 2, 1, 1, 1);
        dueLog(x, 0, 1, 10, 1, 11, 1, 12);
        x.deliver(0);
        dueLog(x, 0, 1, 10);
        due("a CUT leaves HW alone", 0, x.broker(0, 5));
        exchange(x, 0);
        dueLog(x, 0, 1, 10, 2, 20, 2, 21);

        // END above that of the leader.
        x = split();
        x.fetch(0);
        x.deliver(0);
        dueMessage(x, 0, CUT, 1, 0, 2, 1, 1, 1);
        x.deliver(0);
        dueLog(x, 0, 1, 10);

        // END above that of a leader all of whose records are of the FETCH's last epoch.
        x = new InSyncLog(5, 3, 1);
        x.produce(0, 10);
        exchange(x, 1);
        x.produce(0, 11);
        x.govern(1);
        x.learn(1);
        x.learn(0);
        x.fetch(0);
        x.deliver(0);
        dueMessage(x, 0, CUT, 1, 0, 2, 1, 1, 1);
        x.deliver(0);
        dueLog(x, 0, 1, 10);

        // A CUT counts for no FETCHED: with 0 behind START review does not take it in.
        x = split();
        exchange(x, 0);
        due("review(1) after a CUT", 14, x.review(1));

        // No message follows a CUT by itself.
        due("flight()", 0, x.flight());
    }

    private void deliverCutByFollowersEpochs() {
        checks.part("promise 7, a CUT by the follower's epochs");
        // Follower 1: epochs 1 2 2 2 2; leader 2: epochs 1 3 3.
        InSyncLog x = new InSyncLog(20, 3, 1);
        x.produce(0, 10);
        exchangeAll(x);
        x.govern(1);
        x.learn(1);
        for (int i = 0; i < 4; i++) {
            x.produce(1, 20 + i);
        }
        dueController(x, 2, 1, 14);
        dueLog(x, 1, 1, 10, 2, 20, 2, 21, 2, 22, 2, 23);
        x.govern(3);
        dueController(x, 3, 2, 12);
        x.learn(2);
        x.produce(2, 30);
        x.produce(2, 31);
        x.learn(1);
        x.fetch(1);
        x.deliver(0);
        dueMessage(x, 0, CUT, 2, 1, 3, 2, 1, 1);
        x.deliver(0);
        dueLog(x, 1, 1, 10);

        // Follower: epochs 1 2; leader: epochs 1 1 1 3. w is 3, but T is 1.
        x = new InSyncLog(20, 3, 1);
        x.produce(0, 10);
        exchangeAll(x);
        x.produce(0, 11);
        x.produce(0, 12);
        exchange(x, 2);
        dueLog(x, 2, 1, 10, 1, 11, 1, 12);
        x.govern(1);
        x.learn(1);
        x.produce(1, 20);
        x.govern(3);
        x.learn(2);
        x.produce(2, 30);
        x.learn(1);
        dueLog(x, 1, 1, 10, 2, 20);
        dueLog(x, 2, 1, 10, 1, 11, 1, 12, 3, 30);
        x.fetch(1);
        dueMessage(x, 0, FETCH, 1, 2, 3, 2, 2, 2);
        x.deliver(0);
        dueMessage(x, 0, CUT, 2, 1, 3, 2, 3, 1);
        x.deliver(0);
        dueLog(x, 1, 1, 10);
        exchange(x, 1);
        dueLog(x, 1, 1, 10, 1, 11, 1, 12, 3, 30);
    }

    private void deliverCutToNothing() {
        checks.part("promise 7, a CUT to nothing");
        InSyncLog x = new InSyncLog(5, 3, 1);
        x.commit(0, 0);
        x.govern(1);
        x.learn(1);
        x.produce(1, 20);
        x.learn(0);
        x.fetch(0);
        dueMessage(x, 0, FETCH, 0, 1, 2, 1, 1, 1);
        x.deliver(0);
        dueMessage(x, 0, CUT, 1, 0, 2, 1, 0, 0);
        x.deliver(0);
        dueLog(x, 0);
        x.fetch(0);
        dueMessage(x, 0, FETCH, 0, 1, 2, 2, 0, 0);
        x.deliver(0);
        x.deliver(0);
        dueLog(x, 0, 2, 20);

        // The epoch of a MARK is its epoch, whatever epochAt makes of it.
        x = new InSyncLog(5, 3, 1);
        x.commit(0, 0);
        exchange(x, 1);
        x.fetch(1);
        dueMessage(x, 0, FETCH, 1, 0, 1, 2, 1, 1);
        x.deliver(0);
        dueMessage(x, 0, BATCH, 0, 1, 1, 2, 0, 0);
    }

    private void deliverWithFullChannel() {
        checks.part("promise 7, a full channel");
        InSyncLog x = new InSyncLog(5, 3, 1);
        x.produce(0, 10);
        for (int i = 0; i < 7; i++) {
            x.fetch(2);
        }
        x.fetch(1);
        due("flight()", 8, x.flight());
        due("deliver(7)", true, x.deliver(7));
        due("the reply has room", 8, x.flight());
        dueMessage(x, 7, BATCH, 0, 1, 1, 1, 1, 0);
        due("deliver(8)", false, x.deliver(8));
        due("deliver(7)", true, x.deliver(7));
        dueLog(x, 1, 1, 10);
        for (int i = 0; i < 7; i++) {
            dueMessage(x, i, FETCH, 2, 0, 1, i + 1, 0, 0);
        }
    }

    private void batchHoldsRecordsAsTheyWere() {
        checks.part("promise 7, records as they were");
        InSyncLog x = new InSyncLog(5, 3, 1);
        x.produce(0, 10);
        x.commit(0, 0);
        x.fetch(1);
        x.deliver(0);
        x.produce(0, 12);
        due("END of 0", 3, x.broker(0, 4));
        x.deliver(0);
        dueLog(x, 1, 1, 10, -1, 0);

        // Two BATCHes under way at once keep their records apart.
        x = new InSyncLog(5, 3, 1);
        x.produce(0, 10);
        x.fetch(1);
        x.deliver(0);
        x.produce(0, 11);
        x.fetch(2);
        x.deliver(1);
        x.deliver(1);
        x.deliver(0);
        dueLog(x, 1, 1, 10);
        dueLog(x, 2, 1, 10, 1, 11);
    }

    // Promise 8.

    private void lose() {
        checks.part("promise 8");
        InSyncLog x = new InSyncLog(5, 3, 1);
        due("lose(0) of none", false, x.lose(0));
        x.fetch(1);
        x.fetch(2);
        x.fetch(3);
        due("lose(-1)", false, x.lose(-1));
        due("lose(3)", false, x.lose(3));
        due("lose(MIN)", false, x.lose(MIN));
        due("lose(MAX)", false, x.lose(MAX));
        due("flight()", 3, x.flight());
        due("lose(1)", true, x.lose(1));
        due("flight()", 2, x.flight());
        dueMessage(x, 0, FETCH, 1);
        dueMessage(x, 1, FETCH, 3);
        due("lose(0)", true, x.lose(0));
        dueMessage(x, 0, FETCH, 3);
        due("lose(0)", true, x.lose(0));
        due("flight()", 0, x.flight());
        due("a lost FETCH does nothing", 0, x.broker(0, 5));
        x.produce(0, 4);
        x.fetch(1);
        x.deliver(0);
        due("lose(0), a BATCH", true, x.lose(0));
        due("END of 1", 0, x.broker(1, 4));
        due("flight()", 0, x.flight());
    }

    // Promise 9.

    private void flight() {
        checks.part("promise 9");
        InSyncLog x = new InSyncLog(5, 3, 1);
        for (int i = 0; i < 10; i++) {
            due("flight()", Math.min(i, 8), x.flight());
            x.fetch(1 + i % 3);
        }
        x.lose(7);
        due("flight() after lose", 7, x.flight());
        x.crash(0);
        x.deliver(0);
        due("flight() after deliver", 6, x.flight());
        x.crash(1);
        due("flight() after crash", 6, x.flight());
    }

    // Promise 10.

    private void message() {
        checks.part("promise 10");
        InSyncLog x = new InSyncLog(5, 2, 1);
        due("message(0, 0) of none", NONE, x.message(0, 0));
        x.produce(0, 9);
        exchange(x, 3);
        x.fetch(3);
        dueMessage(x, 0, FETCH, 3, 0, 1, 2, 1, 1);
        int[] noWords = {-1, 7, 8, MIN, MAX};
        for (int w : noWords) {
            due("message(0, " + w + ")", NONE, x.message(0, w));
        }
        int[] noMessages = {-1, 1, 8, MIN, MAX};
        for (int i : noMessages) {
            due("message(" + i + ", 0)", NONE, x.message(i, 0));
        }
        x.tick(6);
        x.review(0);
        x.deliver(0);
        dueMessage(x, 0, BATCH, 0, 3, 1, 2, 0, 1);
        x.crash(2);
        due("a message stays as it is", 1, x.message(0, 3));

        x = split();
        x.fetch(0);
        x.deliver(0);
        dueMessage(x, 0, CUT, 1, 0, 2, 1, 1, 1);
    }

    // Promise 11.

    private void reviewByLag() {
        checks.part("promise 11, LAG");
        InSyncLog x = new InSyncLog(5, 3, 1);
        due("review(0) at first", 15, x.review(0));
        x.produce(0, 1);
        exchange(x, 1);
        x.tick(3);
        exchange(x, 1);
        exchange(x, 2);
        x.tick(2);
        due("review(0), TIME 5", 15, x.review(0));
        due("HW", 0, x.broker(0, 5));
        x.tick(1);
        due("review(0), TIME 6: 2 was not CAUGHT UP, 1 was", 3, x.review(0));
        dueController(x, 1, 0, 3);
        due("SYNC", 3, x.broker(0, 3));
        due("HW rises by review", 1, x.broker(0, 5));
        x.tick(3);
        due("review(0), TIME 9", 1, x.review(0));
        x.tick(50);
        due("review(0), b itself never lags", 1, x.review(0));
        due("the brokers know nothing of it", 1, x.broker(1, 1));
    }

    private void reviewByFetched() {
        checks.part("promise 11, FETCHED");
        InSyncLog x = alone(3, 1);
        x.produce(0, 1);
        x.produce(0, 2);
        due("HW", 2, x.broker(0, 5));
        exchange(x, 1);
        due("review(0), 0 FETCHED and lagging", 1, x.review(0));
        exchange(x, 1);
        due("review(0), 2 FETCHED and caught up", 3, x.review(0));
        due("HW", 2, x.broker(0, 5));
        x.produce(0, 3);
        due("HW waits for 1", 2, x.broker(0, 5));
        x.tick(1);
        exchange(x, 2);
        exchange(x, 2);
        due("review(0), 2 and 1 not lagging", 7, x.review(0));
        x.tick(1);
        due("review(0), 1 lagging", 5, x.review(0));
        due("HW", 3, x.broker(0, 5));

        // At least HW is asked, not END.
        x = new InSyncLog(2, 3, 1);
        x.tick(3);
        x.review(0);
        x.produce(0, 1);
        exchange(x, 1);
        exchange(x, 1);
        due("review(0), 1 is back", 3, x.review(0));
        exchange(x, 2);
        exchange(x, 2);
        x.produce(0, 2);
        due("HW below END", 1, x.broker(0, 5));
        due("review(0), 2 FETCHED as much as HW", 7, x.review(0));

        // Not lagging, but less than HW is FETCHED: it stays outside.
        x = alone(1, 1);
        exchange(x, 3);
        x.produce(0, 1);
        due("HW", 1, x.broker(0, 5));
        due("review(0), 3 caught up at 0, HW is 1", 1, x.review(0));
        exchange(x, 3);
        exchange(x, 3);
        due("review(0), 3 FETCHED 1", 9, x.review(0));
    }

    /** Broker 1 leads in epoch 2 with START 2 and HW 0, and 0 is outside of ISR. */
    private InSyncLog behindStart() {
        InSyncLog x = new InSyncLog(20, 1, 1);
        x.produce(0, 1);
        x.produce(0, 2);
        exchange(x, 1);
        exchange(x, 1);
        x.crash(0);
        x.govern(0);
        x.learn(1);
        x.restart(0);
        x.learn(0);
        return x;
    }

    private void reviewByStart() {
        checks.part("promise 11, START");
        InSyncLog x = behindStart();
        due("HW of 1", 0, x.broker(1, 5));
        due("review(1), of 0 nothing is FETCHED", 14, x.review(1));
        exchange(x, 0);
        due("review(1), 0 has FETCHED to START", 15, x.review(1));

        // 2 is behind: it leaves by a crash and comes back with too little.
        x = new InSyncLog(20, 1, 1);
        x.produce(0, 1);
        x.produce(0, 2);
        exchange(x, 1);
        exchange(x, 1);
        x.crash(2);
        x.crash(0);
        x.govern(0);
        dueController(x, 2, 1, 10);
        x.learn(1);
        x.restart(2);
        x.learn(2);
        exchange(x, 2);
        due("review(1), FETCHED is HW (0) but below START", 10, x.review(1));
        exchange(x, 2);
        due("review(1), FETCHED 1, below START", 10, x.review(1));
        x.fetch(2);
        x.deliver(0);
        due("review(1), FETCHED 2, START", 14, x.review(1));

        // HW waits for broker 0, too, when it is back in SYNC.
        x = new InSyncLog(20, 3, 1);
        x.govern(1);
        x.learn(1);
        for (int f = 0; f < 4; f++) {
            x.learn(f);
        }
        exchange(x, 0);
        due("review(1), 0 is back", 15, x.review(1));
        x.produce(1, 5);
        for (int f = 2; f < 4; f++) {
            exchange(x, f);
            exchange(x, f);
        }
        due("HW waits for 0", 0, x.broker(1, 5));
        exchange(x, 0);
        exchange(x, 0);
        due("HW", 1, x.broker(1, 5));

        // With START 0, too, a broker outside of SYNC has to FETCH before it is in.
        x = new InSyncLog(20, 3, 1);
        x.govern(1);
        x.learn(1);
        due("review(1), of 0 nothing is FETCHED", 14, x.review(1));

        // A follower of SYNC stays, though nothing is FETCHED by it yet; HW waits for it.
        x = behindStart();
        x.learn(2);
        x.produce(1, 3);
        due("review(1)", 14, x.review(1));
        due("HW waits for 2 and 3", 0, x.broker(1, 5));
        exchange(x, 2);
        exchange(x, 2);
        exchange(x, 2);
        due("HW waits for 3", 0, x.broker(1, 5));
        x.tick(21);
        exchange(x, 2);
        due("review(1), 3 lags", 6, x.review(1));
        due("HW", 3, x.broker(1, 5));
    }

    private void reviewRefused() {
        checks.part("promise 11, refused");
        InSyncLog x = new InSyncLog(5, 3, 1);
        for (int b : NO_BROKERS) {
            due("review(" + b + ")", NONE, x.review(b));
        }
        due("review(1), a follower", NONE, x.review(1));
        x.crash(3);
        x.govern(0);
        x.tick(6);
        due("review(0) in another epoch", NONE, x.review(0));
        dueController(x, 2, 0, 7);
        due("SYNC", 15, x.broker(0, 3));
        x.learn(0);
        due("review(0)", 7, x.review(0));
        x.crash(0);
        due("review(0) when down", NONE, x.review(0));
        x.restart(0);
        due("review(0) before it learns", NONE, x.review(0));
    }

    // Promise 12.

    private void learn() {
        checks.part("promise 12");
        InSyncLog x = new InSyncLog(5, 3, 1);
        for (int b : NO_BROKERS) {
            due("learn(" + b + ")", false, x.learn(b));
        }
        for (int b = 0; b < 4; b++) {
            due("learn(" + b + ") at first", false, x.learn(b));
        }
        x.produce(0, 1);
        exchangeAll(x);
        exchangeAll(x);
        exchangeAll(x);
        x.produce(0, 2);
        x.tick(9);
        x.govern(1);
        due("learn(1)", true, x.learn(1));
        due("learn(1) again", false, x.learn(1));
        dueBroker(x, 1, 1, 2, 1, 14, 1, 1, 3);
        dueBroker(x, 0, 1, 1, 0, 15, 2, 1, 0);
        due("learn(0)", true, x.learn(0));
        dueBroker(x, 0, 1, 2, 1, 0, 2, 1, 0);
        due("review(1), all CAUGHT UP when it learned", 14, x.review(1));
        x.tick(5);
        due("review(1), still", 14, x.review(1));
        x.tick(1);
        due("review(1), lagging", 2, x.review(1));
        x.crash(2);
        due("learn(2) when down", false, x.learn(2));
        x.restart(2);
        due("learn(2) after a restart", true, x.learn(2));
        dueBroker(x, 2, 1, 2, 1, 0, 1, 1, 3);

        // ISR is learned as it is then; SYNC is not changed by the controller later.
        x = new InSyncLog(5, 3, 1);
        x.govern(1);
        x.govern(4);
        x.learn(1);
        due("SYNC of 1", 10, x.broker(1, 3));
        x.govern(8);
        dueController(x, 4, 1, 2);
        due("SYNC of 1 stays", 10, x.broker(1, 3));
        x.learn(1);
        due("SYNC of 1", 2, x.broker(1, 3));
        due("HW stays as it is", 0, x.broker(1, 5));

        // A leader that learns a new epoch forgets what was FETCHED, but not HW.
        x = new InSyncLog(5, 3, 1);
        x.produce(0, 1);
        exchangeAll(x);
        x.fetch(1);
        x.deliver(0);
        x.deliver(0);
        x.fetch(2);
        x.deliver(0);
        x.deliver(0);
        x.crash(3);
        x.govern(0);
        x.learn(0);
        due("HW right after", 0, x.broker(0, 5));
        due("review(0)", 7, x.review(0));
        due("HW, FETCHED is nothing again", 0, x.broker(0, 5));
        x.learn(1);
        x.learn(2);
        exchange(x, 1);
        exchange(x, 2);
        due("HW", 1, x.broker(0, 5));

        // Even if the leader is now alone in ISR, its HW waits for the next call.
        x = new InSyncLog(5, 3, 1);
        x.produce(0, 1);
        x.govern(14);
        x.learn(0);
        due("SYNC", 1, x.broker(0, 3));
        due("HW stays as it is", 0, x.broker(0, 5));
        due("review(0)", 1, x.review(0));
        due("HW", 1, x.broker(0, 5));
    }

    private void learnAgainAfterCrash() {
        checks.part("promise 12, after a crash");
        InSyncLog x = new InSyncLog(5, 3, 1);
        x.produce(0, 1);
        exchange(x, 1);
        exchange(x, 1);
        x.tick(6);
        due("review(0)", 1, x.review(0));
        x.crash(0);
        x.restart(0);
        due("learn(0), the same epoch", true, x.learn(0));
        dueBroker(x, 0, 1, 1, 0, 1, 1, 1, 0);
        due("produce(0, 2)", 1, x.produce(0, 2));
        due("HW", 2, x.broker(0, 5));
        x.learn(1);
        x.fetch(1);
        due("deliver in the same epoch", true, x.deliver(0));
        dueMessage(x, 0, BATCH, 0, 1, 1, 3, 1, 2);
        due("review(0), FETCHED 1 is below HW", 1, x.review(0));
    }

    // Promise 13.

    private void crash() {
        checks.part("promise 13");
        InSyncLog x = new InSyncLog(1, 3, 1);
        for (int b : NO_BROKERS) {
            due("crash(" + b + ")", false, x.crash(b));
        }
        x.produce(0, 1);
        x.tick(2);
        x.review(0);
        x.commit(0, 1);
        exchange(x, 1);
        due("crash(1)", true, x.crash(1));
        dueBroker(x, 1, 0, 0, NONE, 0, 2, 2, 1);
        dueLog(x, 1, 1, 1, -1, 1);
        due("crash(1) again", false, x.crash(1));
        due("crash(0)", true, x.crash(0));
        dueBroker(x, 0, 0, 0, NONE, 0, 2, 2, 0);
        dueLog(x, 0, 1, 1, -1, 1);
        dueController(x, 1, 0, 1);
        dueBroker(x, 2, 1, 1, 0, 0, 0, 0, 0);
    }

    // Promise 14.

    private void restart() {
        checks.part("promise 14");
        InSyncLog x = new InSyncLog(5, 3, 1);
        for (int b : NO_BROKERS) {
            due("restart(" + b + ")", false, x.restart(b));
        }
        for (int b = 0; b < 4; b++) {
            due("restart(" + b + ") when UP", false, x.restart(b));
        }
        x.produce(0, 4);
        x.crash(0);
        due("restart(0)", true, x.restart(0));
        due("restart(0) again", false, x.restart(0));
        dueBroker(x, 0, 1, 0, NONE, 0, 1, 0, 0);
        dueLog(x, 0, 1, 4);
        due("it does not lead before it learns", NONE, x.produce(0, 1));
        x.learn(0);
        due("it leads again", 1, x.produce(0, 1));
    }

    // Promise 15.

    private void governLosesFollower() {
        checks.part("promise 15, a follower");
        InSyncLog x = new InSyncLog(5, 3, 1);
        due("govern(0), all are ALIVE", false, x.govern(0));
        dueController(x, 1, 0, 15);
        x.crash(2);
        due("govern(0)", true, x.govern(0));
        dueController(x, 2, 0, 11);
        due("govern(0) again", false, x.govern(0));
        dueController(x, 2, 0, 11);
        due("nobody learned by it", 1, x.broker(0, 1));
        x.restart(2);
        due("govern(0), a broker outside of ISR", false, x.govern(0));
        due("govern(4), a suspect outside of ISR", false, x.govern(4));
        dueController(x, 2, 0, 11);
    }

    private void governLosesLeader() {
        checks.part("promise 15, the leader");
        InSyncLog x = new InSyncLog(5, 3, 1);
        x.crash(0);
        x.crash(1);
        due("govern(0)", true, x.govern(0));
        dueController(x, 2, 2, 12);
        x.restart(0);
        x.restart(1);
        due("govern(0), the leader stays", false, x.govern(0));
        due("govern(4)", true, x.govern(4));
        dueController(x, 3, 3, 8);

        // The least of ISR, not the least that is ALIVE.
        x = new InSyncLog(1, 3, 1);
        x.tick(1);
        exchange(x, 2);
        exchange(x, 3);
        x.tick(1);
        due("review(0)", 13, x.review(0));
        x.crash(0);
        due("govern(0)", true, x.govern(0));
        dueController(x, 2, 2, 12);
    }

    private void governLosesAll() {
        checks.part("promise 15, all of ISR");
        InSyncLog x = new InSyncLog(1, 3, 1);
        x.tick(1);
        exchange(x, 3);
        x.tick(1);
        due("review(0)", 9, x.review(0));
        x.crash(0);
        x.crash(3);
        due("govern(0), 1 and 2 are ALIVE", true, x.govern(0));
        dueController(x, 2, NONE, 9);
        due("govern(0) again", false, x.govern(0));
        dueController(x, 2, NONE, 9);
        x.learn(1);
        dueBroker(x, 1, 1, 2, NONE, 0);
        x.restart(3);
        due("govern(0), 3 is back", true, x.govern(0));
        dueController(x, 3, 3, 8);
        x.restart(0);
        due("govern(0)", false, x.govern(0));
        dueController(x, 3, 3, 8);

        // All of ISR back at once: none leaves it.
        x = new InSyncLog(1, 3, 1);
        due("govern(15)", true, x.govern(15));
        dueController(x, 2, NONE, 15);
        due("govern(15) again", false, x.govern(15));
        due("govern(0)", true, x.govern(0));
        dueController(x, 3, 0, 15);
        due("0 leads by what it knows, all the while", 0, x.produce(0, 1));
    }

    private void governSuspects() {
        checks.part("promise 15, suspects");
        InSyncLog x = new InSyncLog(5, 3, 1);
        due("govern(16), no bit of a broker", false, x.govern(16));
        due("govern(-16), no bit of a broker", false, x.govern(-16));
        due("govern(MIN)", false, x.govern(MIN));
        due("govern(8)", true, x.govern(8));
        dueController(x, 2, 0, 7);
        dueBroker(x, 3, 1, 1, 0, 0, 0, 0, 0);
        due("govern(-15), all but bits 1 to 3", true, x.govern(-15));
        dueController(x, 3, 1, 6);
        dueBroker(x, 0, 1, 1, 0, 15, 0, 0, 0);
        due("govern(-1)", true, x.govern(-1));
        dueController(x, 4, NONE, 6);
        due("govern(2), a suspect does not lead", true, x.govern(2));
        dueController(x, 5, 2, 4);
    }

    // Promise 16.

    private void tick() {
        checks.part("promise 16");
        InSyncLog x = new InSyncLog(20, 3, 1);
        int[] wrong = {-1, 51, 100, MIN, MAX};
        for (int n : wrong) {
            due("tick(" + n + ")", false, x.tick(n));
        }
        due("tick(0)", true, x.tick(0));
        due("tick(20)", true, x.tick(20));
        due("review(0), TIME 20", 15, x.review(0));
        due("tick(1)", true, x.tick(1));
        due("review(0), TIME 21", 1, x.review(0));
        x = new InSyncLog(20, 3, 1);
        due("tick(50)", true, x.tick(50));
        due("review(0), TIME 50", 1, x.review(0));
        exchangeAll(x);
        x.tick(10);
        x.tick(10);
        due("review(0), TIME 70", 15, x.review(0));
        x.tick(1);
        due("review(0), TIME 71", 1, x.review(0));
    }

    // Promise 17.

    private void controller() {
        checks.part("promise 17");
        InSyncLog x = new InSyncLog(5, 3, 1);
        int[] wrong = {-1, 3, 4, MIN, MAX};
        for (int k : wrong) {
            due("controller(" + k + ")", NONE, x.controller(k));
        }
        dueController(x, 1, 0, 15);
        x.govern(1);
        dueController(x, 2, 1, 14);
        x.govern(14);
        dueController(x, 3, NONE, 14);
    }

    // Promise 18.

    private void broker() {
        checks.part("promise 18");
        InSyncLog x = new InSyncLog(1, 3, 1);
        for (int b : NO_BROKERS) {
            for (int k = 0; k < 7; k++) {
                due("broker(" + b + ", " + k + ")", NONE, x.broker(b, k));
            }
        }
        int[] wrong = {-1, 7, 8, MIN, MAX};
        for (int k : wrong) {
            due("broker(0, " + k + ")", NONE, x.broker(0, k));
        }
        x.tick(2);
        x.review(0);
        x.produce(0, 1);
        x.produce(0, 2);
        exchange(x, 1);
        x.produce(0, 3);
        x.govern(8);
        dueBroker(x, 0, 1, 1, 0, 1, 3, 3, 0);
        dueBroker(x, 1, 1, 1, 0, 0, 2, 2, 1);
        x.crash(0);
        x.govern(0);
        x.learn(1);
        dueBroker(x, 0, 0, 0, NONE, 0, 3, 3, 0);
        dueBroker(x, 1, 1, 2, NONE, 0, 2, 2, 1);
    }

    // Promises 19 and 20.

    private void records() {
        checks.part("promises 19 and 20");
        InSyncLog x = new InSyncLog(5, 3, 1);
        due("epochAt(0, 0) of none", 0, x.epochAt(0, 0));
        due("valueAt(0, 0) of none", 0, x.valueAt(0, 0));
        x.produce(0, -5);
        x.commit(0, 0);
        exchange(x, 2);
        x.crash(3);
        x.govern(0);
        x.learn(0);
        x.produce(0, 6);
        x.commit(0, 0);
        dueLog(x, 0, 1, -5, -1, 0, 2, 6, -2, 0);
        dueLog(x, 2, 1, -5, -1, 0);
        dueLog(x, 1);
        int[] wrong = {-1, 4, 39, 40, 41, MIN, MAX};
        for (int offset : wrong) {
            due("epochAt(0, " + offset + ")", 0, x.epochAt(0, offset));
            due("valueAt(0, " + offset + ")", 0, x.valueAt(0, offset));
        }
        due("epochAt(2, 2), which only 0 has", 0, x.epochAt(2, 2));
        due("valueAt(2, 2), which only 0 has", 0, x.valueAt(2, 2));
        for (int b : NO_BROKERS) {
            due("epochAt(" + b + ", 0)", 0, x.epochAt(b, 0));
            due("valueAt(" + b + ", 0)", 0, x.valueAt(b, 0));
        }
        x.crash(0);
        dueLog(x, 0, 1, -5, -1, 0, 2, 6, -2, 0);

        // What a CUT took is there no more.
        x = split();
        exchange(x, 0);
        due("epochAt(0, 1) after a CUT", 0, x.epochAt(0, 1));
        due("valueAt(0, 1) after a CUT", 0, x.valueAt(0, 1));

        // A full log has a record at its last offset.
        x = alone(3, 1);
        for (int i = 0; i < 40; i++) {
            x.produce(0, 100 + i);
        }
        due("valueAt(0, 39)", 139, x.valueAt(0, 39));
        due("epochAt(0, 39)", 1, x.epochAt(0, 39));
        due("valueAt(0, 40)", 0, x.valueAt(0, 40));
        for (int i = 0; i < 14; i++) {
            exchange(x, 1);
        }
        due("END of 1", 40, x.broker(1, 4));
        due("HW of 1", 40, x.broker(1, 5));
        due("valueAt(1, 39)", 139, x.valueAt(1, 39));
    }
}
