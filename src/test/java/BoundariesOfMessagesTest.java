/**
 * Each sentence of promises 6 to 10, and of the terms they use, that names a boundary case, with
 * tests of its own.
 */
public final class BoundariesOfMessagesTest extends Bench {
    private static final int[] NO_WORDS = {-1, -2, 7, 8, 256, 65536, MIN, MIN + 1, MAX};
    /** No channel has a message there, also if it is full. */
    private static final int[] NO_MESSAGES = {-1, -8, 8, 9, 16, 256, 65536, MIN, MIN + 1, MAX};

    public static void main(String[] args) {
        BoundariesOfMessagesTest test = new BoundariesOfMessagesTest();
        test.channelAndFetch();
        test.deliverAndLose();
        test.deliveredFetch();
        test.deliveredReply();
        test.looks();
        test.checks.finish();
    }

    private void channelAndFetch() {
        sentence("terms", "or is lost if there are 8", this::eighthAndNinthFetch, this::replyHasRoom);
        sentence("terms", "which numbers its FETCHes 1, 2, .. (over crashes, too)", this::numbersOfFetches);
        sentence("terms", "the epoch of the last record of f (0 if it has none)", this::fetchOfEmptyAndFullLog);
        sentence("promise 6", "which is AWAITED then (and no other one of f is)", this::onlyLatestIsAwaited);
        sentence("promise 6", "true, also if it is lost or the leader is not UP", this::lostFetch,
                this::fetchFromLeaderDown);
        sentence("promise 6", "false if f is no broker", this::fetchOfNone);
        sentence("promise 6", "not UP", this::fetchOfOneDown);
        sentence("promise 6", "leads", this::fetchOfLeader);
        sentence("promise 6", "or knows of no leader", this::fetchWithoutLeader);
    }

    private void deliverAndLose() {
        sentence("promise 7", "(0 is the first)", this::deliverFirstAndLastOfEight);
        sentence("promise 7", "(also if nothing happens by it): true", this::deliverInVain);
        sentence("promise 7", "false if there is none such", this::deliverNoneOfEmpty, this::deliverNoneOfOne,
                this::deliverNoneOfEight);
        sentence("promise 8", "Message i of the channel is lost", this::loseFirstAndLastOfEight);
        sentence("promise 8", "false if there is none such", this::loseNoneOfEmpty, this::loseNoneOfOne,
                this::loseNoneOfEight);
    }

    private void deliveredFetch() {
        sentence("terms, promise 7", "Nothing happens if b does not lead", this::fetchToOneNotLeading);
        sentence("terms, promise 7", "or knows of another epoch than the FETCH bears", this::fetchOfAnotherEpoch);
        sentence("terms, promise 7", "if n is above END of b", this::fetchAroundEnd);
        sentence("terms, promise 7", "or n is above 0 and the record of b at n - 1 has another epoch than e",
                this::fetchOfNothing, this::fetchAroundAnotherEpoch);
        sentence("terms, promise 7", "(0 if w is 0)", this::cutToNothing);
        sentence("terms, promise 7", "Else FETCHED by f becomes n, if it was less",
                this::lateFetchTakesNothingBack,
                this::cutIsNotFetched);
        sentence("terms, promise 7", "f is CAUGHT UP now if n is END of b",
                this::caughtUpAtEnd, this::cutIsNotCaughtUp);
        sentence("terms, promise 7", "then b sends f a BATCH", this::batchBearsHwAsRisen);
        sentence("terms, promise 7", "at most BATCH of them, as they are then", this::sizesOfBatches,
                this::recordsAsTheyWere);
    }

    private void deliveredReply() {
        sentence("terms, promise 7",
                "Nothing happens if f is not UP, knows of another epoch than the message bears, or leads",
                this::replyToOneDown, this::replyOfAnotherEpoch, this::replyToLeader);
        sentence("terms, promise 7", "or if the number is not that of its latest FETCH",
                this::replyToEarlierFetch);
        sentence("terms, promise 7", "or that FETCH was AWAITED no more", this::replyAwaitedNoMore);
        sentence("terms, promise 7",
                "T being the lesser of w and the number of records of f whose epochs are at most e",
                this::cutByW, this::cutByFollowersEpochs, this::cutLeavesHw);
        sentence("terms, promise 7", "the HW of f becomes the lesser of the BATCH's HW and END of f",
                this::hwOfBatchAndEnd);
        sentence("terms, promise 7", "if that is more than it was", this::hwOfFollowerNeverFalls);
    }

    private void looks() {
        sentence("promise 9", "How many messages are in the channel", this::flightFromNoneToEight);
        sentence("promise 10", "NONE if there is no such message or word", this::wordsOfNoMessage,
                this::noWordsOfEachKind);
    }

    // Scenes.

    private InSyncLog fresh() {
        return new InSyncLog(5, 3, 1);
    }

    /** A record of 0 and eight FETCHes: of 1, 2, 3, 1, 2, 3, 1, 2. */
    private InSyncLog eight() {
        InSyncLog x = fresh();
        x.produce(0, 10);
        for (int i = 0; i < 8; i++) {
            x.fetch(1 + i % 3);
        }
        return x;
    }

    private InSyncLog one() {
        InSyncLog x = fresh();
        x.produce(0, 10);
        x.fetch(1);
        return x;
    }

    /** The only message is a BATCH with a record, which 1 awaits. */
    private InSyncLog oneBatch() {
        InSyncLog x = one();
        x.deliver(0);
        return x;
    }

    /** The only message is a CUT, which 0 awaits. */
    private InSyncLog oneCut() {
        InSyncLog x = split();
        x.fetch(0);
        x.deliver(0);
        return x;
    }

    // The channel.

    private void eighthAndNinthFetch() {
        InSyncLog x = fresh();
        for (int i = 0; i < 7; i++) {
            x.fetch(1);
        }
        due("flight() of seven", 7, x.flight());
        due("the eighth", true, x.fetch(2));
        due("flight()", 8, x.flight());
        dueMessage(x, 7, FETCH, 2, 0, 1, 1, 0, 0);
        due("the ninth", true, x.fetch(3));
        due("flight()", 8, x.flight());
        for (int i = 0; i < 7; i++) {
            dueMessage(x, i, FETCH, 1, 0, 1, i + 1, 0, 0);
        }
        dueMessage(x, 7, FETCH, 2, 0, 1, 1, 0, 0);
        x.lose(0);
        due("one more when there is room again", true, x.fetch(3));
        dueMessage(x, 7, FETCH, 3, 0, 1, 2, 0, 0);
    }

    private void replyHasRoom() {
        // The message that is delivered has left the channel when the reply comes to its end.
        InSyncLog x = eight();
        for (int i = 0; i < 8; i++) {
            due("deliver(0) of a FETCH", true, x.deliver(0));
            due("flight()", 8, x.flight());
            dueMessage(x, 7, BATCH, 0, 1 + i % 3, 1, 1 + i / 3, 1, 0);
        }
    }

    private void numbersOfFetches() {
        InSyncLog x = fresh();
        due("number of none", 0, x.broker(1, 6));
        x.fetch(1);
        due("number of the first", 1, x.broker(1, 6));
        due("the first bears it", 1, x.message(0, 4));
        x.fetch(1);
        due("the second bears it", 2, x.message(1, 4));
        x.crash(1);
        due("number when down", 2, x.broker(1, 6));
        x.restart(1);
        x.learn(1);
        x.fetch(1);
        due("the third bears it", 3, x.message(2, 4));
        x.fetch(2);
        due("each broker counts its own", 1, x.message(3, 4));
        x.govern(8);
        x.learn(1);
        x.fetch(1);
        due("the fourth, in another epoch", 4, x.message(4, 4));
    }

    private void fetchOfEmptyAndFullLog() {
        InSyncLog x = fullAlone(1);
        for (int i = 0; i < 14; i++) {
            exchange(x, 1);
        }
        x.fetch(2);
        dueMessage(x, 0, FETCH, 2, 0, 1, 1, 0, 0);
        x.fetch(1);
        dueMessage(x, 1, FETCH, 1, 0, 1, 15, 40, 1);
        x = counted();
        x.fetch(3);
        due("the last epoch is positive, also of a MARK", 1, x.message(0, 6));
        x = split();
        x.fetch(0);
        dueMessage(x, 0, FETCH, 0, 1, 2, 1, 3, 1);
    }

    // Promise 6.

    private void onlyLatestIsAwaited() {
        InSyncLog x = oneBatch();
        x.fetch(1);
        x.deliver(0);
        due("END of 1, an earlier FETCH's BATCH", 0, x.broker(1, 4));
        x.deliver(0);
        x.deliver(0);
        due("END of 1, the latest FETCH's BATCH", 1, x.broker(1, 4));
    }

    private void lostFetch() {
        InSyncLog x = oneBatch();
        for (int i = 0; i < 7; i++) {
            x.fetch(2);
        }
        due("fetch(1) with eight under way", true, x.fetch(1));
        due("flight()", 8, x.flight());
        due("its number", 2, x.broker(1, 6));
        dueMessage(x, 7, FETCH, 2, 0, 1, 7, 0, 0);
        due("deliver(0), the BATCH for its first FETCH", true, x.deliver(0));
        due("END of 1, which awaits the lost one", 0, x.broker(1, 4));
        due("fetch(1) again", true, x.fetch(1));
        dueMessage(x, 7, FETCH, 1, 0, 1, 3, 0, 0);
    }

    private void fetchFromLeaderDown() {
        InSyncLog x = counted();
        x.crash(0);
        due("fetch(1), leader down", true, x.fetch(1));
        dueMessage(x, 0, FETCH, 1, 0, 1, 4, 2, 1);
        x.restart(0);
        due("fetch(2), leader restarted", true, x.fetch(2));
        x.govern(1);
        x.learn(0);
        due("fetch(3), leader of old", true, x.fetch(3));
        dueMessage(x, 2, FETCH, 3, 0, 1, 4, 2, 1);
        due("flight()", 3, x.flight());
    }

    private void fetchOfNone() {
        for (int f : NO_BROKERS) {
            refused("fetch(" + f + ")", this::counted, x -> x.fetch(f));
            refused("fetch(" + f + "), a full channel", this::eight, x -> x.fetch(f));
        }
    }

    private void fetchOfOneDown() {
        refused("fetch(1), down", this::countedThenFollowerDown, x -> x.fetch(1));
        refused("fetch(0), down", this::countedThenDown, x -> x.fetch(0));
    }

    private InSyncLog countedThenFollowerDown() {
        InSyncLog x = counted();
        x.fetch(1);
        x.crash(1);
        return x;
    }

    private void fetchOfLeader() {
        refused("fetch(0), leading", this::counted, x -> x.fetch(0));
        refused("fetch(0), leading by what it knows", this::countedThenReplaced, x -> x.fetch(0));
        due("fetch(1), not leading by what it knows", true, countedThenReplaced().fetch(1));
        InSyncLog x = countedThenReplaced();
        x.learn(1);
        due("fetch(1), leading", false, x.fetch(1));
        x.learn(0);
        due("fetch(0), leading no more", true, x.fetch(0));
    }

    /** 1 is the LEADER, and no broker has learned that. */
    private InSyncLog countedThenReplaced() {
        InSyncLog x = counted();
        x.govern(1);
        return x;
    }

    private void fetchWithoutLeader() {
        refused("fetch(0), restarted", this::countedThenRestarted, x -> x.fetch(0));
        refused("fetch(0), leader NONE", this::countedThenLeaderless, x -> x.fetch(0));
        InSyncLog x = countedThenFollowerDown();
        x.restart(1);
        due("fetch(1), restarted", false, x.fetch(1));
        x.learn(1);
        due("fetch(1), having learned", true, x.fetch(1));
        x = countedThenLeaderless();
        due("fetch(1), which knows of 0 still", true, x.fetch(1));
        x.learn(1);
        due("fetch(1), leader NONE", false, x.fetch(1));
    }

    // Promises 7 and 8: which message.

    private void deliverFirstAndLastOfEight() {
        InSyncLog x = eight();
        x.crash(0);
        due("deliver(7)", true, x.deliver(7));
        due("flight()", 7, x.flight());
        for (int i = 0; i < 7; i++) {
            dueMessage(x, i, FETCH, 1 + i % 3, 0, 1, 1 + i / 3, 0, 0);
        }
        due("deliver(0)", true, x.deliver(0));
        due("flight()", 6, x.flight());
        for (int i = 0; i < 6; i++) {
            dueMessage(x, i, FETCH, 1 + (i + 1) % 3, 0, 1, 1 + (i + 1) / 3, 0, 0);
        }
        due("deliver(5), the last one", true, x.deliver(5));
        due("deliver(5), none now", false, x.deliver(5));
        due("flight()", 5, x.flight());
    }

    private void deliverInVain() {
        InSyncLog x = one();
        x.fetch(2);
        x.crash(0);
        due("deliver(0) to one not UP", true, x.deliver(0));
        due("flight()", 1, x.flight());
        dueMessage(x, 0, FETCH, 2, 0, 1, 1, 0, 0);
        x = oneBatch();
        x.fetch(1);
        due("deliver(0) of a BATCH that is not AWAITED", true, x.deliver(0));
        due("flight()", 1, x.flight());
        dueMessage(x, 0, FETCH, 1, 0, 1, 2, 0, 0);
    }

    private void deliverNoneOfEmpty() {
        refused("deliver(0)", this::fresh, x -> x.deliver(0));
        refused("deliver(1)", this::fresh, x -> x.deliver(1));
        refused("deliver(0) when all have gone", this::counted, x -> x.deliver(0));
        for (int i : NO_MESSAGES) {
            refused("deliver(" + i + ")", this::fresh, x -> x.deliver(i));
        }
    }

    private void deliverNoneOfOne() {
        refused("deliver(1), a FETCH", this::one, x -> x.deliver(1));
        refused("deliver(-1), a FETCH", this::one, x -> x.deliver(-1));
        refused("deliver(1), a BATCH", this::oneBatch, x -> x.deliver(1));
        refused("deliver(1), a CUT", this::oneCut, x -> x.deliver(1));
    }

    private void deliverNoneOfEight() {
        for (int i : NO_MESSAGES) {
            refused("deliver(" + i + ")", this::eight, x -> x.deliver(i));
        }
    }

    private void loseFirstAndLastOfEight() {
        InSyncLog x = eight();
        due("lose(7)", true, x.lose(7));
        due("flight()", 7, x.flight());
        for (int i = 0; i < 7; i++) {
            dueMessage(x, i, FETCH, 1 + i % 3, 0, 1, 1 + i / 3, 0, 0);
        }
        due("lose(0)", true, x.lose(0));
        due("flight()", 6, x.flight());
        for (int i = 0; i < 6; i++) {
            dueMessage(x, i, FETCH, 1 + (i + 1) % 3, 0, 1, 1 + (i + 1) / 3, 0, 0);
        }
        for (int i = 5; i >= 0; i--) {
            due("lose(" + i + "), the last one", true, x.lose(i));
        }
        due("flight()", 0, x.flight());
        x.tick(6);
        due("review(0), no FETCH was delivered", 1, x.review(0));
        x = oneCut();
        due("lose(0), a CUT", true, x.lose(0));
        due("END of 0", 3, x.broker(0, 4));
        x = oneBatch();
        due("lose(0), a BATCH", true, x.lose(0));
        due("END of 1", 0, x.broker(1, 4));
    }

    private void loseNoneOfEmpty() {
        refused("lose(0)", this::fresh, x -> x.lose(0));
        refused("lose(1)", this::fresh, x -> x.lose(1));
        refused("lose(0) when all have gone", this::counted, x -> x.lose(0));
        for (int i : NO_MESSAGES) {
            refused("lose(" + i + ")", this::fresh, x -> x.lose(i));
        }
    }

    private void loseNoneOfOne() {
        refused("lose(1), a FETCH", this::one, x -> x.lose(1));
        refused("lose(-1), a FETCH", this::one, x -> x.lose(-1));
        refused("lose(1), a BATCH", this::oneBatch, x -> x.lose(1));
        refused("lose(1), a CUT", this::oneCut, x -> x.lose(1));
    }

    private void loseNoneOfEight() {
        for (int i : NO_MESSAGES) {
            refused("lose(" + i + ")", this::eight, x -> x.lose(i));
        }
    }

    // Promise 7: a FETCH.

    private void fetchToOneNotLeading() {
        inVain("a FETCH to one not UP", 0, () -> {
            InSyncLog x = one();
            x.crash(0);
            return x;
        });
        inVain("a FETCH to one that has not learned", 0, () -> {
            InSyncLog x = one();
            x.crash(0);
            x.restart(0);
            return x;
        });
        inVain("a FETCH to one without a leader", 0, () -> {
            InSyncLog x = one();
            x.govern(15);
            x.learn(0);
            return x;
        });
        // 0 leads in epoch 2, 2 takes over, 0 learns epoch 3, and the FETCH bears epoch 2.
        inVain("a FETCH to one that follows", 0, () -> {
            InSyncLog x = fresh();
            x.govern(8);
            x.learn(1);
            x.fetch(1);
            x.govern(3);
            x.learn(0);
            return x;
        });
        InSyncLog x = one();
        x.govern(1);
        due("deliver of a FETCH to one that leads by what it knows", true, x.deliver(0));
        dueMessage(x, 0, BATCH, 0, 1, 1, 1, 1, 0);
    }

    private void fetchOfAnotherEpoch() {
        inVain("a FETCH of an earlier epoch", 0, () -> {
            InSyncLog x = one();
            x.govern(8);
            x.learn(0);
            return x;
        });
        inVain("a FETCH of a later epoch", 0, () -> {
            InSyncLog x = fresh();
            x.produce(0, 10);
            x.govern(8);
            x.learn(1);
            x.fetch(1);
            return x;
        });
        // Taken, these FETCHes of a record would let HW rise.
        inVain("a FETCH of a record and of an earlier epoch", 0, () -> {
            InSyncLog x = fresh();
            x.produce(0, 10);
            exchange(x, 1);
            x.fetch(1);
            x.govern(12);
            x.learn(0);
            x.tick(1);
            dueBroker(x, 0, 1, 2, 0, 3, 1, 0);
            dueMessage(x, 0, FETCH, 1, 0, 1, 2, 1, 1);
            return x;
        });
        inVain("a FETCH of a record and of a later epoch", 0, () -> {
            InSyncLog x = inSyncWith(1, 1);
            x.produce(0, 10);
            exchange(x, 1);
            x.govern(2);
            x.learn(1);
            x.fetch(1);
            x.tick(1);
            dueBroker(x, 0, 1, 1, 0, 3, 1, 0);
            dueMessage(x, 0, FETCH, 1, 0, 2, 3, 1, 1);
            return x;
        });
        // The leader was down meanwhile, but the epoch is the same.
        InSyncLog x = one();
        x.crash(0);
        x.restart(0);
        x.learn(0);
        due("deliver of a FETCH of the same epoch", true, x.deliver(0));
        dueMessage(x, 0, BATCH, 0, 1, 1, 1, 1, 0);
    }

    /** 0 has so many records of epoch 1, and 1, which leads in epoch 2, the first so many of them. */
    private InSyncLog behind(int followers, int leaders) {
        InSyncLog x = new InSyncLog(5, 1, 1);
        produceMany(x, 0, followers);
        for (int i = 0; i < leaders; i++) {
            exchange(x, 1);
        }
        x.govern(1);
        x.learn(1);
        x.learn(0);
        return x;
    }

    private void fetchAroundEnd() {
        for (int end = 0; end < 3; end++) {
            InSyncLog x = behind(end, end);
            x.fetch(0);
            x.deliver(0);
            dueMessage(x, 0, BATCH, 1, 0, 2, 1, 0, 0);
            x = behind(end + 1, end);
            x.fetch(0);
            x.deliver(0);
            dueMessage(x, 0, CUT, 1, 0, 2, 1, end, end == 0 ? 0 : 1);
            x.deliver(0);
            due("END of 0", end, x.broker(0, 4));
        }
        InSyncLog x = behind(5, 2);
        x.fetch(0);
        x.deliver(0);
        dueMessage(x, 0, CUT, 1, 0, 2, 1, 2, 1);
    }

    private void fetchOfNothing() {
        InSyncLog x = fresh();
        x.fetch(1);
        x.deliver(0);
        dueMessage(x, 0, BATCH, 0, 1, 1, 1, 0, 0);
        x = behind(0, 0);
        x.produce(1, 20);
        x.fetch(0);
        x.deliver(0);
        dueMessage(x, 0, BATCH, 1, 0, 2, 1, 1, 0);
    }

    private void fetchAroundAnotherEpoch() {
        // 1 has a record of epoch 2 at offset 1; 0 has one of epoch 1 there, or none.
        InSyncLog x = behind(1, 1);
        x.produce(1, 20);
        x.fetch(0);
        x.deliver(0);
        dueMessage(x, 0, BATCH, 1, 0, 2, 1, 1, 0);
        x = behind(2, 1);
        x.produce(1, 20);
        x.fetch(0);
        x.deliver(0);
        dueMessage(x, 0, CUT, 1, 0, 2, 1, 1, 1);
        x = behind(2, 1);
        produceMany(x, 1, 5);
        x.fetch(0);
        x.deliver(0);
        dueMessage(x, 0, CUT, 1, 0, 2, 1, 1, 1);
    }

    private void cutToNothing() {
        // n is 1, and END of the leader 0, 1 and 2.
        for (int end = 0; end < 3; end++) {
            InSyncLog x = behind(1, 0);
            produceMany(x, 1, end);
            x.fetch(0);
            x.deliver(0);
            dueMessage(x, 0, CUT, 1, 0, 2, 1, 0, 0);
            x.deliver(0);
            due("END of 0", 0, x.broker(0, 4));
            x.fetch(0);
            dueMessage(x, 0, FETCH, 0, 1, 2, 2, 0, 0);
        }
    }

    private void lateFetchTakesNothingBack() {
        InSyncLog x = alone(3, 1);
        x.produce(0, 10);
        x.fetch(1);
        exchangeLast(x, 1, 2);
        due("deliver(0), a late FETCH of 0 records", true, x.deliver(0));
        due("review(0), FETCHED is 1 still", 3, x.review(0));

        x = alone(3, 1);
        x.produce(0, 10);
        x.fetch(1);
        x.deliver(0);
        due("review(0), FETCHED is 0", 1, x.review(0));
    }

    private void cutIsNotFetched() {
        // The leader 1 has nothing, HW 0 and START 0; 0 is outside of ISR.
        InSyncLog x = behind(1, 0);
        exchange(x, 0);
        due("review(1) after a CUT", 14, x.review(1));
        exchange(x, 0);
        due("review(1) after a BATCH", 15, x.review(1));
    }

    private void caughtUpAtEnd() {
        // LAG 5. 1 has two records, and fetches at TIME 5 with END of the leader 2 or 3.
        InSyncLog x = counted();
        x.tick(5);
        exchange(x, 1);
        x.tick(1);
        due("review(0), n was END", 3, x.review(0));
        x = counted();
        x.produce(0, 1);
        x.tick(5);
        exchange(x, 1);
        x.tick(1);
        due("review(0), n was below END", 1, x.review(0));

        // With empty logs, too.
        x = fresh();
        x.tick(5);
        exchange(x, 1);
        x.tick(1);
        due("review(0), n and END were 0", 3, x.review(0));

        // NOW is when the FETCH is delivered, not when it was sent.
        x = fresh();
        x.fetch(1);
        x.tick(5);
        x.deliver(0);
        x.tick(1);
        due("review(0), sent at TIME 0, delivered at 5", 3, x.review(0));
    }

    private void cutIsNotCaughtUp() {
        // 2 has a record more than 1, which leads in epoch 2 with both in SYNC.
        InSyncLog x = new InSyncLog(5, 1, 1);
        produceMany(x, 0, 2);
        exchange(x, 1);
        exchange(x, 2);
        exchange(x, 2);
        x.govern(1);
        x.learn(1);
        x.learn(2);
        x.tick(5);
        x.fetch(2);
        x.deliver(0);
        due("a CUT", CUT, x.message(0, 0));
        x.deliver(0);
        x.tick(1);
        due("review(1), 2 was not CAUGHT UP", 2, x.review(1));

        // The other way about: after the CUT it fetches again.
        exchange(x, 2);
        due("review(1), 2 was CAUGHT UP", 6, x.review(1));
    }

    private void batchBearsHwAsRisen() {
        InSyncLog x = inSyncWith(1, 1);
        x.produce(0, 10);
        x.fetch(1);
        x.deliver(0);
        dueMessage(x, 0, BATCH, 0, 1, 1, 2, 1, 0);
        x.deliver(0);
        x.fetch(1);
        x.deliver(0);
        due("HW of 0", 1, x.broker(0, 5));
        dueMessage(x, 0, BATCH, 0, 1, 1, 3, 0, 1);
        x.deliver(0);
        due("HW of 1", 1, x.broker(1, 5));
    }

    private void sizesOfBatches() {
        for (int batch = 1; batch <= 3; batch++) {
            for (int rest = 0; rest <= 4; rest++) {
                for (int n = 0; n <= 1; n++) {
                    InSyncLog x = new InSyncLog(5, batch, 1);
                    produceMany(x, 0, n);
                    exchange(x, 1);
                    produceMany(x, 0, rest);
                    x.fetch(1);
                    x.deliver(0);
                    int size = rest < batch ? rest : batch;
                    dueMessage(x, 0, BATCH, 0, 1, 1, 2, size, 0);
                    x.deliver(0);
                    due("END of 1", n + size, x.broker(1, 4));
                }
            }
        }
    }

    private void recordsAsTheyWere() {
        // The BATCH for 2 waits while 0 loses those records and gets others.
        InSyncLog x = fresh();
        x.produce(0, 10);
        x.commit(0, 0);
        x.fetch(2);
        x.deliver(0);
        x.produce(0, 12);
        x.govern(1);
        x.learn(1);
        x.learn(0);
        x.produce(1, 20);
        x.produce(1, 21);
        exchangeLast(x, 0, 2);
        dueLog(x, 0, 2, 20, 2, 21);
        dueMessage(x, 0, BATCH, 0, 2, 1, 1, 2, 0);
        x.deliver(0);
        dueLog(x, 2, 1, 10, -1, 0);
    }

    // Promise 7: a CUT or BATCH.

    private void replyToOneDown() {
        inVain("a BATCH to one not UP", 0, () -> {
            InSyncLog x = oneBatch();
            x.crash(1);
            return x;
        });
        inVain("a CUT to one not UP", 0, () -> {
            InSyncLog x = oneCut();
            x.crash(0);
            return x;
        });
    }

    private void replyOfAnotherEpoch() {
        inVain("a BATCH of an earlier epoch", 0, () -> {
            InSyncLog x = oneBatch();
            x.govern(8);
            x.learn(1);
            return x;
        });
        inVain("a BATCH of an epoch forgotten", 0, () -> {
            InSyncLog x = oneBatch();
            x.crash(1);
            x.restart(1);
            return x;
        });
        inVain("a CUT of an earlier epoch", 0, () -> {
            InSyncLog x = oneCut();
            x.govern(8);
            x.learn(0);
            return x;
        });
        inVain("a CUT of an epoch forgotten", 0, () -> {
            InSyncLog x = oneCut();
            x.crash(0);
            x.restart(0);
            return x;
        });
        // What the controller has does not count, but what the broker knows.
        InSyncLog x = oneBatch();
        x.govern(8);
        x.deliver(0);
        due("END of 1, which has not learned", 1, x.broker(1, 4));
    }

    private void replyToLeader() {
        inVain("a BATCH to one that leads", 0, () -> {
            InSyncLog x = oneBatch();
            x.govern(1);
            x.learn(1);
            due("SYNC of 1, which leads", 14, x.broker(1, 3));
            return x;
        });
        inVain("a CUT to one that leads", 0, () -> {
            InSyncLog x = oneCut();
            exchangeLast(x, 0, 2);
            x.review(1);
            x.govern(2);
            x.learn(0);
            due("SYNC of 0, which leads", 13, x.broker(0, 3));
            return x;
        });
    }

    private void replyToEarlierFetch() {
        inVain("a BATCH for the FETCH before", 0, () -> {
            InSyncLog x = oneBatch();
            x.fetch(1);
            return x;
        });
        inVain("a CUT for the FETCH before", 0, () -> {
            InSyncLog x = oneCut();
            x.fetch(0);
            return x;
        });
        InSyncLog x = oneCut();
        x.fetch(0);
        x.deliver(1);
        x.deliver(0);
        due("END of 0, the CUT for the FETCH before", 3, x.broker(0, 4));
        x.deliver(0);
        due("END of 0, the CUT for the latest", 1, x.broker(0, 4));
    }

    private void replyAwaitedNoMore() {
        // Epoch and number are right: the broker has crashed and learned the same epoch since.
        inVain("a BATCH from before a crash", 0, () -> {
            InSyncLog x = oneBatch();
            x.crash(1);
            x.restart(1);
            x.learn(1);
            return x;
        });
        inVain("a CUT from before a crash", 0, () -> {
            InSyncLog x = oneCut();
            x.crash(0);
            x.restart(0);
            x.learn(0);
            return x;
        });
        InSyncLog x = one();
        x.crash(1);
        x.restart(1);
        x.learn(1);
        due("deliver of a FETCH from before a crash", true, x.deliver(0));
        dueMessage(x, 0, BATCH, 0, 1, 1, 1, 1, 0);
        due("deliver of its BATCH", true, x.deliver(0));
        due("END of 1", 0, x.broker(1, 4));
        exchange(x, 1);
        due("END of 1 by the next FETCH", 1, x.broker(1, 4));
    }

    private void cutByW() {
        // The follower has more records of epochs at most e than w: w counts.
        for (int followers = 1; followers <= 4; followers++) {
            for (int leaders = 0; leaders < followers; leaders++) {
                InSyncLog x = behind(followers, leaders);
                exchange(x, 0);
                due("END of 0, with " + followers + " and " + leaders, leaders, x.broker(0, 4));
            }
        }
    }

    private void cutByFollowersEpochs() {
        // 1 has epochs 1 and 2, the leader 2 has 1 so many times and 3: w is that, T is 1.
        for (int w = 2; w <= 4; w++) {
            InSyncLog x = new InSyncLog(20, 3, 1);
            x.produce(0, 10);
            exchange(x, 1);
            produceMany(x, 0, w - 1);
            exchange(x, 2);
            exchange(x, 2);
            x.govern(1);
            x.learn(1);
            x.produce(1, 20);
            x.govern(3);
            x.learn(2);
            x.produce(2, 30);
            x.learn(1);
            x.fetch(1);
            x.deliver(0);
            dueMessage(x, 0, CUT, 2, 1, 3, 2, w, 1);
            x.deliver(0);
            dueLog(x, 1, 1, 10);
        }
    }

    private void cutLeavesHw() {
        // 0 has records that count (HW 2) and two more, which go.
        InSyncLog x = counted();
        produceMany(x, 0, 2);
        x.govern(1);
        x.learn(1);
        x.learn(0);
        exchange(x, 0);
        due("END of 0", 2, x.broker(0, 4));
        due("HW of 0", 2, x.broker(0, 5));
    }

    private void hwOfBatchAndEnd() {
        // Four records of 0 count; 1 gets them one by one, and HW with them.
        InSyncLog x = alone(1, 1);
        produceMany(x, 0, 4);
        for (int end = 1; end <= 4; end++) {
            exchange(x, 1);
            due("END of 1", end, x.broker(1, 4));
            due("HW of 1, END while it is less than that of 0", end, x.broker(1, 5));
        }
        exchange(x, 1);
        due("HW of 1, as that of 0", 4, x.broker(1, 5));

        // Now 1 is in SYNC: its END goes ahead of HW of 0.
        due("review(0)", 3, x.review(0));
        x.produce(0, 1);
        exchange(x, 1);
        due("END of 1", 5, x.broker(1, 4));
        due("HW of 1, that of 0 while it is less than END", 4, x.broker(1, 5));

        // An empty BATCH brings HW alone.
        exchange(x, 1);
        due("HW of 1", 5, x.broker(1, 5));
    }

    private void hwOfFollowerNeverFalls() {
        // 3 knows HW 1, 1 does not, and then leads.
        InSyncLog x = fresh();
        x.produce(0, 10);
        exchangeAll(x);
        exchangeAll(x);
        due("HW of 3", 1, x.broker(3, 5));
        due("HW of 1", 0, x.broker(1, 5));
        x.govern(1);
        x.learn(1);
        x.learn(3);
        exchange(x, 3);
        due("HW of 3 after a BATCH of HW 0", 1, x.broker(3, 5));
        due("HW of 1", 0, x.broker(1, 5));
    }

    // Promises 9 and 10.

    private void flightFromNoneToEight() {
        InSyncLog x = fresh();
        due("flight() of none", 0, x.flight());
        for (int i = 1; i <= 8; i++) {
            x.fetch(1 + i % 3);
            due("flight()", i, x.flight());
        }
        for (int i = 0; i < 3; i++) {
            x.fetch(1 + i);
            due("flight() of a full channel", 8, x.flight());
        }
        for (int i = 7; i >= 0; i--) {
            x.lose(0);
            due("flight()", i, x.flight());
        }
        x.lose(0);
        due("flight() after lose of none", 0, x.flight());
        x.deliver(0);
        due("flight() after deliver of none", 0, x.flight());
    }

    private void wordsOfNoMessage() {
        for (int w = 0; w < 7; w++) {
            due("message(0, " + w + ") of an empty channel", NONE, fresh().message(0, w));
            due("message(0, " + w + ") when all have gone", NONE, counted().message(0, w));
            due("message(1, " + w + ") of one", NONE, one().message(1, w));
        }
        InSyncLog x = eight();
        dueMessage(x, 0, FETCH, 1, 0, 1, 1, 0, 0);
        dueMessage(x, 7, FETCH, 2, 0, 1, 3, 0, 0);
        for (int i : NO_MESSAGES) {
            for (int w = 0; w < 7; w++) {
                due("message(" + i + ", " + w + ") of eight", NONE, x.message(i, w));
            }
        }
        x.lose(3);
        for (int w = 0; w < 7; w++) {
            due("message(7, " + w + ") of seven", NONE, x.message(7, w));
        }
    }

    private void noWordsOfEachKind() {
        InSyncLog fetch = one();
        InSyncLog batch = oneBatch();
        InSyncLog cut = oneCut();
        dueMessage(fetch, 0, FETCH, 1, 0, 1, 1, 0, 0);
        dueMessage(batch, 0, BATCH, 0, 1, 1, 1, 1, 0);
        dueMessage(cut, 0, CUT, 1, 0, 2, 1, 1, 1);
        for (int w : NO_WORDS) {
            due("message(0, " + w + ") of a FETCH", NONE, fetch.message(0, w));
            due("message(0, " + w + ") of a BATCH", NONE, batch.message(0, w));
            due("message(0, " + w + ") of a CUT", NONE, cut.message(0, w));
            for (int i : NO_MESSAGES) {
                due("message(" + i + ", " + w + ")", NONE, fetch.message(i, w));
            }
        }
    }
}
