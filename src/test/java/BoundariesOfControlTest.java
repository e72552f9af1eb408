/**
 * Each sentence of promises 11 to 18, and of the terms they use, that names a boundary case, with
 * tests of its own.
 */
public final class BoundariesOfControlTest extends Bench {
    private static final int[] NO_SMALL_NUMBERS = {-1, -2, 8, 256, 65536, MIN, MIN + 1, MIN + 2, MAX};

    public static void main(String[] args) {
        BoundariesOfControlTest test = new BoundariesOfControlTest();
        test.atFirst();
        test.reviews();
        test.lives();
        test.governs();
        test.ticksAndLooks();
        test.checks.finish();
    }

    private void atFirst() {
        sentence("terms", "At the beginning broker 0 leads so, with START 0 and TIME 0", this::beginning);
        sentence("terms", "after a crash epoch 0 and leader NONE, until it learns", this::viewAfterCrash);
    }

    private void reviews() {
        sentence("promise 11", "NONE if b does not lead (or is none)",
                this::reviewOfNone, this::reviewOfOneNotLeading);
        sentence("promise 11", "or knows of another epoch than EPOCH", this::reviewInAnotherEpoch);
        sentence("promise 11", "b itself", this::leaderNeverLags);
        sentence("promise 11", "the brokers of SYNC that are not LAGGING", this::lagOfEachInSync,
                this::nothingFetchedInSync, this::oneDownInSync);
        sentence("promise 11", "each other broker that is not LAGGING", this::lagOfOneOutside);
        sentence("promise 11", "at least as much as HW of b", this::fetchedAroundHw);
        sentence("promise 11", "at least as much as START of b", this::fetchedAroundStart);
        sentence("promise 11", "(so not nothing)", this::nothingFetchedOutside);
        sentence("promise 11", "and then the HW of b RISES", this::hwRisesByReview);
        sentence("promise 11", "(perhaps the same)", this::reviewOfTheSame);
    }

    private void lives() {
        sentence("promise 12", "(its HW stays as it is)", this::hwStaysWhenLearning);
        sentence("promise 12", "if it is the LEADER itself, ISR", this::syncOfLeaderAlone);
        sentence("promise 12", "false if b is no broker", this::learnOfNone);
        sentence("promise 12", "is not UP", this::learnOfOneDown);
        sentence("promise 12", "or knows of EPOCH already", this::learnOfKnownEpoch);
        sentence("promise 13", "false if it is no broker or is not UP", this::crashOfNone, this::crashOfOneDown);
        sentence("terms, promise 13", "Logs and HWs outlast crashes", this::whatOutlastsCrashes);
        sentence("promise 14", "false if it is no broker or is UP", this::restartOfNone, this::restartOfOneUp);
    }

    private void governs() {
        sentence("promise 15", "(of which the bits of brokers alone count)", this::otherBitsOfSuspects,
                this::eachSetOfSuspects);
        sentence("promise 15", "nothing changes for a suspect itself", this::suspectGoesOn);
        sentence("promise 15", "If no broker of ISR is ALIVE: if LEADER is a broker, LEADER becomes NONE",
                this::noneOfIsrAlive);
        sentence("promise 15", "(ISR stays)", this::isrWaits);
        sentence("promise 15", "LEADER stays, if it is ALIVE", this::leaderThatIsNotLeast);
        sentence("promise 15", "or else becomes the least broker of ISR that is ALIVE", this::leastOfIsr);
        sentence("promise 15", "True if EPOCH grew, else false", this::governInVain);
    }

    private void ticksAndLooks() {
        sentence("promise 16", "false if n is not 0 .. 50", this::ticksInRange, this::ticksOutOfRange);
        sentence("promise 17", "NONE for any other k", this::controllerOtherwise);
        sentence("promise 18", "1 if it is UP, else 0", this::upOrNot);
        sentence("promise 18", "SYNC if it leads, else 0", this::syncOfOneNotLeading);
        sentence("promise 18", "the number of its latest FETCH, 0 if there was none", this::numberOfLatestFetch);
        sentence("promise 18", "NONE if b is no broker, or for any other k", this::brokerOtherwise);
    }

    // Scenes.

    private InSyncLog fresh() {
        return new InSyncLog(5, 3, 1);
    }

    /** A record that does not count yet, and all followers LAGGING: a review would change much. */
    private InSyncLog overdue() {
        InSyncLog x = fresh();
        x.produce(0, 10);
        x.tick(6);
        return x;
    }

    private InSyncLog overdueWith(int suspects) {
        InSyncLog x = overdue();
        x.govern(suspects);
        return x;
    }

    // Terms.

    private void beginning() {
        InSyncLog x = fresh();
        dueController(x, 1, 0, 15);
        dueBroker(x, 0, 1, 1, 0, 15, 0, 0, 0);
        for (int b = 1; b < 4; b++) {
            dueBroker(x, b, 1, 1, 0, 0, 0, 0, 0);
        }
        due("flight()", 0, x.flight());
        x.tick(5);
        due("review(0), all were CAUGHT UP at TIME 0", 15, x.review(0));
        x.tick(1);
        due("review(0), beyond LAG", 1, x.review(0));
        exchange(x, 1);
        due("review(0), START is 0", 3, x.review(0));
    }

    private void viewAfterCrash() {
        InSyncLog x = counted();
        for (int b = 0; b < 4; b++) {
            x.crash(b);
            dueBroker(x, b, 0, 0, NONE, 0, 2, 2, b == 0 ? 0 : 3);
            x.restart(b);
            dueBroker(x, b, 1, 0, NONE, 0, 2, 2, b == 0 ? 0 : 3);
            x.learn(b);
            dueBroker(x, b, 1, 1, 0, b == 0 ? 15 : 0, 2, 2, b == 0 ? 0 : 3);
        }
    }

    // Promise 11.

    private void reviewOfNone() {
        for (int b : NO_BROKERS) {
            refused("review(" + b + ")", NONE, this::overdue, x -> x.review(b));
        }
    }

    private void reviewOfOneNotLeading() {
        for (int b = 1; b < 4; b++) {
            int f = b;
            refused("review(" + f + ")", NONE, this::overdue, x -> x.review(f));
        }
        refused("review when down", NONE, this::countedThenDown, x -> x.review(0));
        refused("review before it learns", NONE, this::countedThenRestarted, x -> x.review(0));
        refused("review without a leader", NONE, this::countedThenLeaderless, x -> x.review(0));
        refused("review of one that follows", NONE, this::countedThenFollowing, x -> x.review(0));
    }

    private void reviewInAnotherEpoch() {
        refused("review of 0, LEADER in an epoch it has not learned", NONE,
                () -> overdueWith(8), x -> x.review(0));
        refused("review of 0, LEADER no more", NONE, () -> overdueWith(1), x -> x.review(0));
        refused("review of 0, LEADER is NONE", NONE, () -> overdueWith(15), x -> x.review(0));
        refused("review of 1, LEADER but it has not learned", NONE, () -> overdueWith(1), x -> x.review(1));
        InSyncLog x = overdueWith(8);
        x.learn(0);
        due("review of 0, which has learned", 7, x.review(0));
    }

    private void leaderNeverLags() {
        InSyncLog x = overdue();
        x.tick(50);
        due("review(0)", 1, x.review(0));
        x.tick(50);
        due("review(0), alone", 1, x.review(0));
        x = overdueWith(1);
        x.learn(1);
        x.tick(50);
        due("review(1)", 2, x.review(1));
    }

    private void lagOfEachInSync() {
        for (int lag = 3; lag <= 20; lag++) {
            // 1, 2 and 3 are CAUGHT UP at TIME 1, 2 and 3.
            InSyncLog x = new InSyncLog(lag, 3, 1);
            for (int f = 1; f < 4; f++) {
                x.tick(1);
                exchange(x, f);
            }
            x.tick(lag - 2);
            due("review(0), 1 at LAG " + lag, 15, x.review(0));
            x.tick(1);
            due("review(0), 1 beyond LAG, 2 at it", 13, x.review(0));
            x.tick(1);
            due("review(0), 2 beyond LAG, 3 at it", 9, x.review(0));
            x.tick(1);
            due("review(0), all beyond LAG", 1, x.review(0));
        }
    }

    private void nothingFetchedInSync() {
        InSyncLog x = fresh();
        x.produce(0, 10);
        due("review(0), of no broker anything is FETCHED", 15, x.review(0));
        due("HW", 0, x.broker(0, 5));
    }

    private void oneDownInSync() {
        InSyncLog x = fresh();
        x.crash(2);
        due("review(0), 2 is down and not LAGGING", 15, x.review(0));
        x.tick(6);
        due("review(0), LAGGING", 1, x.review(0));
    }

    private void lagOfOneOutside() {
        // 1 is outside of SYNC with all that counts FETCHED, CAUGHT UP at TIME 2; LAG is 1.
        InSyncLog x = alone(3, 1);
        x.produce(0, 10);
        exchange(x, 1);
        exchange(x, 1);
        x.tick(1);
        due("review(0) at LAG", 3, x.review(0));
        x = alone(3, 1);
        x.produce(0, 10);
        exchange(x, 1);
        exchange(x, 1);
        x.tick(2);
        due("review(0) beyond LAG", 1, x.review(0));
    }

    private void fetchedAroundHw() {
        // 1 is CAUGHT UP with so many records FETCHED; then HW of 0, alone, is 2.
        for (int fetched = 0; fetched <= 2; fetched++) {
            InSyncLog x = alone(3, 1);
            produceMany(x, 0, fetched);
            exchange(x, 1);
            exchange(x, 1);
            produceMany(x, 0, 2 - fetched);
            due("HW", 2, x.broker(0, 5));
            due("review(0), FETCHED " + fetched + " of 2", fetched == 2 ? 3 : 1, x.review(0));
        }
        // 1 is in SYNC and holds HW back at 0; 2 is outside with more than HW.
        InSyncLog x = inSyncWith(1, 1);
        x.produce(0, 10);
        exchange(x, 2);
        exchange(x, 2);
        due("HW", 0, x.broker(0, 5));
        due("review(0), FETCHED 1 and HW 0", 7, x.review(0));
    }

    /** 1 leads in epoch 2 with HW 0, START 2 and 3 in ISR; 2 is outside with an empty log. BATCH is 1. */
    private InSyncLog startTwo() {
        InSyncLog x = new InSyncLog(20, 1, 1);
        produceMany(x, 0, 2);
        exchange(x, 1);
        exchange(x, 1);
        x.govern(5);
        x.learn(1);
        x.learn(2);
        dueController(x, 2, 1, 10);
        due("HW", 0, x.broker(1, 5));
        return x;
    }

    private void fetchedAroundStart() {
        for (int fetched = 0; fetched <= 2; fetched++) {
            InSyncLog x = startTwo();
            for (int i = 0; i <= fetched; i++) {
                exchange(x, 2);
            }
            due("review(1), FETCHED " + fetched + ", START 2", fetched == 2 ? 14 : 10, x.review(1));
        }
        // Beyond START, too: 3 holds HW back at 0.
        InSyncLog x = startTwo();
        x.produce(1, 20);
        for (int i = 0; i < 3; i++) {
            exchange(x, 2);
        }
        due("review(1), FETCHED 2, END 3", 14, x.review(1));
        x = startTwo();
        x.produce(1, 20);
        for (int i = 0; i < 4; i++) {
            exchange(x, 2);
        }
        due("review(1), FETCHED 3, END 3", 14, x.review(1));

        // START is END when the epoch is learned; what is produced later does not raise it.
        x = new InSyncLog(20, 3, 1);
        x.govern(4);
        x.learn(0);
        x.learn(2);
        x.produce(0, 10);
        exchange(x, 2);
        due("review(0), FETCHED 0, START 0, HW 0", 15, x.review(0));
    }

    private void nothingFetchedOutside() {
        InSyncLog x = fresh();
        x.govern(4);
        x.learn(0);
        due("review(0), HW 0, START 0, of 2 nothing is FETCHED", 11, x.review(0));
        x.learn(2);
        exchange(x, 2);
        due("review(0), FETCHED by 2 is 0", 15, x.review(0));

        // What was FETCHED in the epoch before is forgotten.
        x = counted();
        x.govern(4);
        x.learn(0);
        due("review(0), of 2 nothing is FETCHED in this epoch", 11, x.review(0));
    }

    private void hwRisesByReview() {
        InSyncLog x = overdue();
        due("HW", 0, x.broker(0, 5));
        due("review(0)", 1, x.review(0));
        due("HW, alone, is END", 1, x.broker(0, 5));

        // Of those that stay, the least FETCHED counts.
        x = new InSyncLog(5, 1, 1);
        produceMany(x, 0, 3);
        x.tick(1);
        for (int f = 1; f < 3; f++) {
            for (int i = 0; i < 4; i++) {
                exchange(x, f);
            }
        }
        x.produce(0, 1);
        exchange(x, 2);
        exchange(x, 2);
        x.tick(5);
        due("HW", 0, x.broker(0, 5));
        due("review(0), 3 leaves", 7, x.review(0));
        due("HW, FETCHED by 1", 3, x.broker(0, 5));
    }

    private void reviewOfTheSame() {
        InSyncLog x = counted();
        due("review(0)", 15, x.review(0));
        dueAlike("review(0) that changes nothing", Twins.difference(this::counted, y -> y.review(0)));
        x.tick(6);
        due("review(0)", 1, x.review(0));
        due("review(0) again", 1, x.review(0));
        dueController(x, 1, 0, 1);
    }

    // Promise 12.

    private void hwStaysWhenLearning() {
        // 0 alone in ISR, but HW rises with the next call only.
        InSyncLog x = fresh();
        x.produce(0, 10);
        x.govern(14);
        x.learn(0);
        due("HW of a leader", 0, x.broker(0, 5));
        x.produce(0, 11);
        due("HW by produce", 2, x.broker(0, 5));

        x = counted();
        produceMany(x, 0, 1);
        x.govern(1);
        x.learn(1);
        due("HW of a new leader", 2, x.broker(1, 5));
        x.learn(0);
        due("HW of a leader of old", 2, x.broker(0, 5));
    }

    private void syncOfLeaderAlone() {
        InSyncLog x = counted();
        x.govern(1);
        for (int b = 0; b < 4; b++) {
            due("learn(" + b + ")", true, x.learn(b));
            dueBroker(x, b, 1, 2, 1, b == 1 ? 14 : 0);
        }
        x.govern(15);
        for (int b = 0; b < 4; b++) {
            due("learn(" + b + "), LEADER is NONE", true, x.learn(b));
            dueBroker(x, b, 1, 3, NONE, 0);
        }
    }

    private void learnOfNone() {
        for (int b : NO_BROKERS) {
            refused("learn(" + b + ")", () -> overdueWith(1), x -> x.learn(b));
        }
    }

    private void learnOfOneDown() {
        for (int b = 0; b < 4; b++) {
            int d = b;
            refused("learn(" + d + "), down", () -> {
                InSyncLog x = counted();
                x.crash(d);
                return x;
            }, x -> x.learn(d));
            refused("learn(" + d + "), down in another epoch", () -> {
                InSyncLog x = counted();
                x.crash(d);
                x.govern(0);
                return x;
            }, x -> x.learn(d));
        }
    }

    private void learnOfKnownEpoch() {
        for (int b = 0; b < 4; b++) {
            int d = b;
            refused("learn(" + d + ") of the first epoch", this::counted, x -> x.learn(d));
            refused("learn(" + d + ") a second time", () -> {
                InSyncLog x = overdueWith(1);
                x.learn(d);
                return x;
            }, x -> x.learn(d));
            refused("learn(" + d + ") after a review", () -> {
                InSyncLog x = overdue();
                x.fetch(2);
                x.review(0);
                return x;
            }, x -> x.learn(d));
        }
        // It may skip epochs, and learn after a crash the one that it knew before.
        InSyncLog x = counted();
        x.govern(1);
        x.govern(2);
        x.govern(4);
        due("learn(3) of the fourth epoch", true, x.learn(3));
        dueBroker(x, 3, 1, 4, 3, 8);
        x.crash(3);
        x.restart(3);
        due("learn(3) of the same", true, x.learn(3));
        dueBroker(x, 3, 1, 4, 3, 8);
    }

    // Promises 13 and 14.

    private void crashOfNone() {
        for (int b : NO_BROKERS) {
            refused("crash(" + b + ")", this::counted, x -> x.crash(b));
        }
    }

    private void crashOfOneDown() {
        for (int b = 0; b < 4; b++) {
            int d = b;
            due("crash(" + d + ")", true, counted().crash(d));
            refused("crash(" + d + ") again", () -> {
                InSyncLog x = counted();
                x.crash(d);
                return x;
            }, x -> x.crash(d));
        }
    }

    private void whatOutlastsCrashes() {
        InSyncLog x = counted();
        for (int b = 0; b < 4; b++) {
            x.crash(b);
        }
        for (int b = 0; b < 4; b++) {
            dueLog(x, b, 1, 50, -1, 0);
            due("HW of " + b, 2, x.broker(b, 5));
        }
        dueController(x, 1, 0, 15);
        x = fresh();
        x.crash(1);
        dueLog(x, 1);
        due("HW of 1", 0, x.broker(1, 5));
    }

    private void restartOfNone() {
        for (int b : NO_BROKERS) {
            refused("restart(" + b + ")", this::countedThenDown, x -> x.restart(b));
        }
    }

    private void restartOfOneUp() {
        for (int b = 0; b < 4; b++) {
            int d = b;
            refused("restart(" + d + "), UP", this::counted, x -> x.restart(d));
            InSyncLog y = counted();
            y.crash(d);
            due("restart(" + d + ")", true, y.restart(d));
            refused("restart(" + d + ") again", () -> {
                InSyncLog x = counted();
                x.crash(d);
                x.restart(d);
                return x;
            }, x -> x.restart(d));
        }
    }

    // Promise 15.

    private void otherBitsOfSuspects() {
        for (int bit = 4; bit < 32; bit++) {
            int suspects = 1 << bit;
            refused("govern(1 << " + bit + ")", this::counted, x -> x.govern(suspects));
        }
        refused("govern(-16)", this::counted, x -> x.govern(-16));
        refused("govern(MIN)", this::counted, x -> x.govern(MIN));
        InSyncLog x = counted();
        due("govern(MAX), all brokers are in it", true, x.govern(MAX));
        dueController(x, 2, NONE, 15);
        x = counted();
        due("govern(-1), all brokers are in it", true, x.govern(-1));
        dueController(x, 2, NONE, 15);
    }

    private void eachSetOfSuspects() {
        int[] leaders = {0, 1, 0, 2, 0, 1, 0, 3, 0, 1, 0, 2, 0, 1, 0};
        for (int suspects = 1; suspects < 15; suspects++) {
            for (int others : new int[] {0, 16, -16, MIN}) {
                InSyncLog x = fresh();
                due("govern(" + (suspects | others) + ")", true, x.govern(suspects | others));
                dueController(x, 2, leaders[suspects], 15 - suspects);
                due("the same again, leader in sync", false, x.govern(suspects | others));
            }
        }
    }

    private void suspectGoesOn() {
        InSyncLog x = counted();
        x.fetch(1);
        x.govern(3);
        dueBroker(x, 0, 1, 1, 0, 15, 2, 2, 0);
        dueBroker(x, 1, 1, 1, 0, 0, 2, 2, 4);
        due("produce of a suspect that leads", 2, x.produce(0, 1));
        due("deliver of the FETCH of a suspect", true, x.deliver(0));
        due("deliver of its BATCH", true, x.deliver(0));
        due("END of 1", 3, x.broker(1, 4));
        due("restart of a suspect, which is UP", false, x.restart(1));
    }

    /** ISR is 0 and 3, and 1 and 2 are UP outside of it. */
    private InSyncLog pair() {
        InSyncLog x = fresh();
        x.govern(6);
        x.learn(0);
        x.learn(3);
        dueController(x, 2, 0, 9);
        return x;
    }

    private void noneOfIsrAlive() {
        InSyncLog x = pair();
        due("govern(9)", true, x.govern(9));
        dueController(x, 3, NONE, 9);
        x = pair();
        x.crash(0);
        due("govern(8), one down and one suspect", true, x.govern(8));
        dueController(x, 3, NONE, 9);
        x = pair();
        for (int b = 0; b < 4; b++) {
            x.crash(b);
        }
        due("govern(0), all down", true, x.govern(0));
        dueController(x, 3, NONE, 9);
    }

    private void isrWaits() {
        InSyncLog x = pair();
        x.govern(9);
        due("govern(8), 0 is ALIVE again", true, x.govern(8));
        dueController(x, 4, 0, 1);
        x = pair();
        x.govern(9);
        due("govern(1), 3 is ALIVE again", true, x.govern(1));
        dueController(x, 4, 3, 8);
        x = pair();
        x.govern(9);
        due("govern(6), both are ALIVE again", true, x.govern(6));
        dueController(x, 4, 0, 9);
    }

    private void leastOfIsr() {
        InSyncLog x = pair();
        due("govern(1), 1 and 2 are ALIVE, but outside", true, x.govern(1));
        dueController(x, 3, 3, 8);
        x = fresh();
        x.crash(1);
        due("govern(1), 1 is in ISR, but down", true, x.govern(1));
        dueController(x, 2, 2, 12);
    }

    private void leaderThatIsNotLeast() {
        // 2 leads, and 0 and 1 have come back to ISR.
        InSyncLog x = fresh();
        x.govern(3);
        x.learn(2);
        for (int f = 0; f < 2; f++) {
            x.learn(f);
            exchange(x, f);
        }
        due("review(2)", 15, x.review(2));
        due("govern(0)", false, x.govern(0));
        due("govern(8)", true, x.govern(8));
        dueController(x, 3, 2, 7);
        due("govern(2)", true, x.govern(2));
        dueController(x, 4, 2, 5);
        due("govern(4)", true, x.govern(4));
        dueController(x, 5, 0, 1);
    }

    private void governInVain() {
        refused("govern(0), all ALIVE", this::counted, x -> x.govern(0));
        refused("govern(0), LEADER and ISR ALIVE", this::pair, x -> x.govern(0));
        refused("govern(6), suspects outside of ISR", this::pair, x -> x.govern(6));
        refused("govern(0), one outside of ISR down", () -> {
            InSyncLog x = pair();
            x.crash(1);
            return x;
        }, x -> x.govern(0));
        refused("govern(9), LEADER is NONE already", () -> {
            InSyncLog x = pair();
            x.govern(9);
            return x;
        }, x -> x.govern(9));
        refused("govern(0), LEADER is NONE and all are down", () -> {
            InSyncLog x = counted();
            for (int b = 0; b < 4; b++) {
                x.crash(b);
            }
            x.govern(0);
            return x;
        }, x -> x.govern(0));
    }

    // Promise 16.

    private void ticksInRange() {
        dueAlike("tick(0) changes nothing", Twins.difference(this::counted, x -> x.tick(0) ? 1 : 0));
        for (int n = 0; n <= 50; n++) {
            // LAG 20; the rest to 20 or 21 beyond n is ticked by ones.
            InSyncLog x = new InSyncLog(20, 3, 1);
            due("tick(" + n + ")", true, x.tick(n));
            due("review(0)", n <= 20 ? 15 : 1, x.review(0));
            for (int i = n; i < 20; i++) {
                x.tick(1);
            }
            due("review(0), TIME is 20 or more", n <= 20 ? 15 : 1, x.review(0));
            x.tick(1);
            due("review(0), TIME is 21 or more", 1, x.review(0));
        }
        // How far beyond LAG: a FETCH that is delivered at TIME 50 counts from then.
        InSyncLog x = new InSyncLog(20, 3, 1);
        x.tick(50);
        exchange(x, 1);
        x.tick(20);
        due("review(0), TIME 70", 3, x.review(0));
        x.tick(1);
        due("review(0), TIME 71", 1, x.review(0));
    }

    private void ticksOutOfRange() {
        int[] wrong = {-1, -2, -50, 51, 52, 100, 256, 306, 65536, MIN, MIN + 1, MIN + 50, MAX - 1, MAX};
        for (int n : wrong) {
            refused("tick(" + n + ")", this::counted, x -> x.tick(n));
        }
    }

    // Promises 17 and 18.

    private void controllerOtherwise() {
        InSyncLog x = pair();
        dueController(x, 2, 0, 9);
        due("controller(3)", NONE, x.controller(3));
        for (int k : NO_SMALL_NUMBERS) {
            due("controller(" + k + ")", NONE, x.controller(k));
        }
    }

    private void upOrNot() {
        for (int b = 0; b < 4; b++) {
            InSyncLog x = fresh();
            x.crash(b);
            for (int other = 0; other < 4; other++) {
                due("UP of " + other, other == b ? 0 : 1, x.broker(other, 0));
            }
            x.restart(b);
            due("UP of " + b + ", restarted", 1, x.broker(b, 0));
        }
    }

    private void syncOfOneNotLeading() {
        InSyncLog x = overdue();
        due("SYNC of 0", 15, x.broker(0, 3));
        for (int b = 1; b < 4; b++) {
            due("SYNC of " + b, 0, x.broker(b, 3));
        }
        x.review(0);
        due("SYNC of 0, alone", 1, x.broker(0, 3));
        due("SYNC when down", 0, countedThenDown().broker(0, 3));
        due("SYNC before it learns", 0, countedThenRestarted().broker(0, 3));
        due("SYNC without a leader", 0, countedThenLeaderless().broker(0, 3));
        due("SYNC of one that follows", 0, countedThenFollowing().broker(0, 3));
        x = overdueWith(1);
        due("SYNC of 0, leading by what it knows", 15, x.broker(0, 3));
        due("SYNC of 1, LEADER but it has not learned", 0, x.broker(1, 3));
    }

    private void numberOfLatestFetch() {
        InSyncLog x = fresh();
        for (int f = 0; f < 4; f++) {
            due("number of " + f, 0, x.broker(f, 6));
        }
        x.fetch(0);
        due("number of 0, which leads", 0, x.broker(0, 6));
        for (int i = 1; i <= 10; i++) {
            x.fetch(2);
            due("number of 2, also of those that are lost", i, x.broker(2, 6));
        }
        due("number of 3", 0, x.broker(3, 6));
    }

    private void brokerOtherwise() {
        InSyncLog x = counted();
        for (int b : NO_BROKERS) {
            for (int k = 0; k < 7; k++) {
                due("broker(" + b + ", " + k + ")", NONE, x.broker(b, k));
            }
            due("broker(" + b + ", 7)", NONE, x.broker(b, 7));
        }
        for (int b = 0; b < 4; b++) {
            dueBroker(x, b, 1, 1, 0, b == 0 ? 15 : 0, 2, 2, b == 0 ? 0 : 3);
            due("broker(" + b + ", 7)", NONE, x.broker(b, 7));
            for (int k : NO_SMALL_NUMBERS) {
                due("broker(" + b + ", " + k + ")", NONE, x.broker(b, k));
            }
        }
    }
}
