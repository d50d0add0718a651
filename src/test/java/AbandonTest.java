/** Promise 9: abandon. */
final class AbandonTest {
    private static final Check CHECK = new Check("AbandonTest");

    public static void main(String[] args) {
        CHECK.sentence("it returns the number of the checkpoint", AbandonTest::returnsTheNumber);
        CHECK.sentence("none is under way then", AbandonTest::noneUnderWay);
        CHECK.sentence("no channel is blocked then", AbandonTest::noChannelBlocked);
        CHECK.sentence("sealed transactions are sealed no more", AbandonTest::sealedNoMore);
        CHECK.sentence("what they have is added to the open ones", AbandonTest::addedToTheOpen);
        CHECK.sentence("counts and sums by key are added", AbandonTest::addedByKey);
        CHECK.sentence("after none, some, or all but one of 1 to 4 workers have sealed", AbandonTest::anyNumberSealed);
        CHECK.sentence("a worker that has not sealed has its open one as it was", AbandonTest::notSealedStays);
        CHECK.sentence("the number is not used again", AbandonTest::numberNotUsedAgain);
        CHECK.sentence("state, readers, channels and the sink stay", AbandonTest::allElseStays);
        CHECK.sentence("the latest complete checkpoint stays", AbandonTest::latestCompleteStays);
        CHECK.sentence("the next checkpoint needs all its barriers", AbandonTest::nextNeedsAllBarriers);
        CHECK.sentence("the next checkpoint keeps what is then", AbandonTest::nextKeepsAnew);
        CHECK.sentence("none is under way: refused", AbandonTest::refusesWithoutOne);
        CHECK.sentence("a complete one is not under way: refused", AbandonTest::refusesComplete);
        CHECK.finish();
    }

    private static void returnsTheNumber() {
        CheckpointedStream x = new CheckpointedStream();
        for (int number = 1; number <= 5; number++) {
            x.beginCheckpoint();
            CHECK.same("abandon", x.abandon(), number);
        }
        CHECK.same("with an older complete one", Streams.withCheckpointUnderWay().abandon(), 2);
    }

    private static void noneUnderWay() {
        CheckpointedStream x = Streams.withCheckpointUnderWay();
        x.abandon();
        CHECK.same("underWay", x.underWay(), CheckpointedStream.NONE);
        for (int partition = 0; partition < 4; partition++) {
            CHECK.no("hasSent(" + partition + ")", x.hasSent(partition));
        }
    }

    private static void noChannelBlocked() {
        CheckpointedStream x = Streams.ofWorkers(4);
        Streams.beginAndSend(x);
        for (int worker = 0; worker < 4; worker++) {
            for (int partition = 0; partition < 4; partition++) {
                if (partition != worker) {
                    x.take(worker, partition);
                    CHECK.yes("isBlocked", x.isBlocked(partition, worker));
                }
            }
        }
        x.abandon();
        for (int worker = 0; worker < 4; worker++) {
            for (int partition = 0; partition < 4; partition++) {
                CHECK.no("isBlocked(" + partition + ", " + worker + ")", x.isBlocked(partition, worker));
            }
            Streams.fill(x, (worker + 1) % 4, Streams.keyOf(4, worker, 0), 1);
            CHECK.same("take", x.take(worker, (worker + 1) % 4), 1);
        }
    }

    private static void sealedNoMore() {
        CheckpointedStream x = Streams.withCheckpointUnderWay();
        CHECK.same("sealed ahead", x.sealed(0), 2);
        x.abandon();
        CHECK.same("sealed(0)", x.sealed(0), CheckpointedStream.NONE);
        CHECK.same("sealed(1)", x.sealed(1), CheckpointedStream.NONE);
    }

    private static void addedToTheOpen() {
        CheckpointedStream x = Streams.withEventsTaken(2);
        Streams.beginAndSend(x);
        Streams.takeFromAll(x, 0);
        CHECK.same("open with all sealed", x.open(0), 0);
        Streams.fill(x, 0, 0, 2);
        Streams.take(x, 0, 0, 2);
        CHECK.same("open with what came since", x.open(0), 2);
        x.abandon();
        CHECK.same("open with both", x.open(0), 5);
    }

    private static void addedByKey() {
        CheckpointedStream x = Streams.withEventsTaken(2);
        Streams.beginAndSend(x);
        Streams.takeFromAll(x, 0);
        Streams.fill(x, 0, 0, 2);
        Streams.fill(x, 0, 16, 1);
        Streams.take(x, 0, 0, 3);
        x.abandon();
        x.pump(1);
        Streams.completeCheckpoint(x);
        CHECK.same("commit", x.commit(0), 6);
        CHECK.same("committedCount of a key in both", x.committedCount(0), 4);
        CHECK.same("committedSum of it", x.committedSum(0), 33);
        CHECK.same("committedCount of a sealed one", x.committedCount(8), 1);
        CHECK.same("committedSum of it", x.committedSum(8), 5);
        CHECK.same("committedCount of an open one", x.committedCount(16), 1);
        CHECK.same("committedSum of it", x.committedSum(16), 1);
    }

    private static void anyNumberSealed() {
        for (int workers = 1; workers <= 4; workers++) {
            for (int sealed = 0; sealed < workers; sealed++) {
                for (int first = 0; first < workers; first++) {
                    abandonsWithSealed(workers, sealed, first);
                }
            }
        }
    }

    private static void abandonsWithSealed(int workers, int sealed, int first) {
        CheckpointedStream x = Streams.withEventsTaken(workers);
        Streams.beginAndSend(x);
        for (int i = 0; i < sealed; i++) {
            Streams.takeFromAll(x, (first + i) % workers);
        }
        CHECK.same("abandon", x.abandon(), 1);
        for (int worker = 0; worker < workers; worker++) {
            CHECK.same("open(" + worker + ")", x.open(worker), 3);
            CHECK.same("sealed(" + worker + ")", x.sealed(worker), CheckpointedStream.NONE);
        }
        x.pump(1);
        Streams.completeCheckpoint(x);
        for (int worker = 0; worker < workers; worker++) {
            CHECK.same("commit(" + worker + ")", x.commit(worker), 3);
            CHECK.same("committedSum", x.committedSum(Streams.keyOf(workers, worker, 0)), 30);
        }
    }

    private static void notSealedStays() {
        CheckpointedStream x = Streams.withEventsTaken(3);
        Streams.beginAndSend(x);
        Streams.takeFromAll(x, 1);
        x.take(0, 0);
        x.abandon();
        CHECK.same("open(0)", x.open(0), 3);
        CHECK.same("open(1)", x.open(1), 3);
        CHECK.same("open(2)", x.open(2), 3);
    }

    private static void numberNotUsedAgain() {
        CheckpointedStream x = new CheckpointedStream();
        x.beginCheckpoint();
        x.abandon();
        CHECK.same("the next one", x.beginCheckpoint(), 2);
        CheckpointedStream y = Streams.withCheckpointUnderWay();
        y.abandon();
        CHECK.same("after one that a worker had sealed", y.beginCheckpoint(), 3);
        y.abandon();
        y.crash();
        CHECK.same("after a crash", y.beginCheckpoint(), 4);
    }

    private static void allElseStays() {
        CheckpointedStream x = Streams.withCheckpointUnderWay();
        x.abandon();
        CHECK.same("count", x.count(1), 3);
        CHECK.same("sum", x.sum(1), 80);
        CHECK.same("sum of another", x.sum(2), 70);
        CHECK.same("offset(0)", x.offset(0), 2);
        CHECK.same("offset(3)", x.offset(3), 1);
        CHECK.same("queued(1, 1)", x.queued(1, 1), 2);
        CHECK.same("its event", x.itemAt(1, 1, 0), 4060);
        CHECK.same("its barrier", x.itemAt(1, 1, 1), -2);
        CHECK.same("queued(3, 1)", x.queued(3, 1), 2);
        CHECK.same("its barrier", x.itemAt(3, 1, 0), -2);
        CHECK.same("events", x.events(0), 3);
        CHECK.same("committed", x.committed(), 3);
        CHECK.same("committedSum", x.committedSum(1), 30);
        CHECK.same("workers", x.workers(), 2);
    }

    private static void latestCompleteStays() {
        CheckpointedStream x = Streams.withCheckpointUnderWay();
        x.abandon();
        CHECK.same("complete", x.complete(), 1);
        CHECK.same("keptOffset", x.keptOffset(0), 1);
        CHECK.same("keptSum", x.keptSum(1), 30);
        CHECK.same("crash", x.crash(), 1);
        CHECK.same("sum", x.sum(1), 30);
        CHECK.same("count", x.count(1), 2);
        CHECK.same("offset", x.offset(0), 1);
    }

    private static void nextNeedsAllBarriers() {
        CheckpointedStream x = new CheckpointedStream();
        Streams.beginAndSend(x);
        x.take(0, 0);
        x.take(0, 1);
        x.take(0, 2);
        Streams.takeFromAll(x, 1);
        x.abandon();
        x.take(0, 3);
        Streams.beginAndSend(x);
        x.take(0, 3);
        CHECK.same("sealed by one", x.sealed(0), CheckpointedStream.NONE);
        x.take(0, 0);
        x.take(0, 1);
        CHECK.same("sealed by three", x.sealed(0), CheckpointedStream.NONE);
        x.take(0, 2);
        CHECK.same("sealed by four", x.sealed(0), 2);
        CHECK.same("the other worker has not sealed it", x.complete(), CheckpointedStream.NONE);
        Streams.takeFromAll(x, 1);
        CHECK.same("complete", x.complete(), 2);
    }

    private static void nextKeepsAnew() {
        CheckpointedStream x = Streams.withEventsTaken(2);
        Streams.beginAndSend(x);
        Streams.takeFromAll(x, 0);
        x.abandon();
        x.append(0, 0, 3);
        x.append(3, 4, 4);
        x.pump(2);
        Streams.completeCheckpoint(x);
        CHECK.same("keptSum(0)", x.keptSum(0), 33);
        CHECK.same("keptSum(4)", x.keptSum(4), 34);
        CHECK.same("keptOffset(0)", x.keptOffset(0), 4);
        CHECK.same("keptOffset(1)", x.keptOffset(1), 3);
        CHECK.same("keptOffset(3)", x.keptOffset(3), 1);
    }

    private static void refusesWithoutOne() {
        Check.Use abandon = CheckpointedStream::abandon;
        CHECK.refused("new", Check.NOT_NOW, CheckpointedStream::new, abandon);
        CHECK.refused("twice", Check.NOT_NOW, () -> {
            CheckpointedStream x = Streams.withCheckpointUnderWay();
            x.abandon();
            return x;
        }, abandon);
        CHECK.refused("crashed", Check.NOT_NOW, () -> {
            CheckpointedStream x = Streams.withCheckpointUnderWay();
            x.crash();
            return x;
        }, abandon);
        CHECK.refused("rescaled", Check.NOT_NOW, () -> {
            CheckpointedStream x = Streams.withCheckpointUnderWay();
            x.rescale(4);
            return x;
        }, abandon);
    }

    private static void refusesComplete() {
        CHECK.refused("sealed", Check.NOT_NOW, Streams::withCompleteCheckpoint, CheckpointedStream::abandon);
        CHECK.refused("committed", Check.NOT_NOW, Streams::withCommittedCheckpoint, CheckpointedStream::abandon);
    }
}
