/** Promise 8: beginCheckpoint. */
final class BeginCheckpointTest {
    private static final Check CHECK = new Check("BeginCheckpointTest");

    public static void main(String[] args) {
        CHECK.sentence("it returns the number, and numbers go from 1 on", BeginCheckpointTest::numbersFromOneOn);
        CHECK.sentence("numbers go on, however a checkpoint ends", BeginCheckpointTest::numbersGoOn);
        CHECK.sentence("the checkpoint is under way then", BeginCheckpointTest::underWayThen);
        CHECK.sentence("no reader has sent its barrier for it", BeginCheckpointTest::noneHasSent);
        CHECK.sentence("it does no more than begin", BeginCheckpointTest::beginsAlone);
        CHECK.sentence("one is under way: refused", BeginCheckpointTest::oneUnderWay);
        CHECK.sentence("a worker has a sealed transaction: refused", BeginCheckpointTest::oneSealed);
        CHECK.sentence("an empty sealed transaction refuses too", BeginCheckpointTest::emptySealed);
        CHECK.sentence("when all are committed it begins", BeginCheckpointTest::allCommitted);
        CHECK.sentence("when starting again has committed them it begins", BeginCheckpointTest::startedAgain);
        CHECK.sentence("a refused call uses up no number", BeginCheckpointTest::refusedUsesNoNumber);
        CHECK.finish();
    }

    private static void numbersFromOneOn() {
        CheckpointedStream x = new CheckpointedStream();
        for (int number = 1; number <= 256; number++) {
            CHECK.same("beginCheckpoint", x.beginCheckpoint(), number);
            CHECK.same("abandon, up to the 512th call", x.abandon(), number);
        }
    }

    private static void numbersGoOn() {
        CheckpointedStream x = new CheckpointedStream();
        Streams.completeCheckpoint(x);
        Streams.commitAll(x);
        CHECK.same("after a complete one", x.beginCheckpoint(), 2);
        x.crash();
        CHECK.same("after a crash", x.beginCheckpoint(), 3);
        x.rescale(4);
        CHECK.same("after a rescale", x.beginCheckpoint(), 4);
        x.abandon();
        Streams.completeCheckpoint(x);
        CHECK.same("complete", x.complete(), 5);
        x.crash();
        CHECK.same("after a complete one and a crash", x.beginCheckpoint(), 6);
    }

    private static void underWayThen() {
        for (int workers = 1; workers <= 4; workers++) {
            CheckpointedStream x = Streams.ofWorkers(workers);
            int number = x.beginCheckpoint();
            CHECK.same("underWay", x.underWay(), number);
            CHECK.same("complete", x.complete(), CheckpointedStream.NONE);
        }
    }

    private static void noneHasSent() {
        CheckpointedStream x = new CheckpointedStream();
        Streams.beginAndSend(x);
        x.abandon();
        x.beginCheckpoint();
        for (int partition = 0; partition < 4; partition++) {
            CHECK.no("hasSent(" + partition + ")", x.hasSent(partition));
        }
        CheckpointedStream next = Streams.withCommittedCheckpoint();
        next.beginCheckpoint();
        for (int partition = 0; partition < 4; partition++) {
            CHECK.no("hasSent(" + partition + ") after a complete one", next.hasSent(partition));
        }
    }

    private static void beginsAlone() {
        CheckpointedStream x = Streams.withCommittedCheckpoint();
        Streams.fill(x, 0, 1, 2);
        x.take(0, 0);
        x.beginCheckpoint();
        CHECK.same("queued", x.queued(0, 0), 1);
        CHECK.same("queued of another", x.queued(1, 0), 0);
        CHECK.same("complete", x.complete(), 1);
        CHECK.same("keptOffset", x.keptOffset(0), 1);
        CHECK.same("keptSum", x.keptSum(1), 30);
        CHECK.same("sum", x.sum(1), 31);
        CHECK.same("open", x.open(0), 1);
        CHECK.same("sealed", x.sealed(0), CheckpointedStream.NONE);
        CHECK.same("offset", x.offset(0), 3);
        CHECK.same("committed", x.committed(), 3);
        CHECK.no("isBlocked", x.isBlocked(0, 0));
    }

    private static void oneUnderWay() {
        Check.Use begin = CheckpointedStream::beginCheckpoint;
        CHECK.refused("just begun", Check.NOT_NOW, () -> {
            CheckpointedStream x = new CheckpointedStream();
            x.beginCheckpoint();
            return x;
        }, begin);
        CHECK.refused("barriers sent", Check.NOT_NOW, () -> {
            CheckpointedStream x = Streams.withEventsTaken(2);
            Streams.beginAndSend(x);
            return x;
        }, begin);
        CHECK.refused("one has sealed", Check.NOT_NOW, Streams::withCheckpointUnderWay, begin);
    }

    private static void oneSealed() {
        for (int workers = 1; workers <= 4; workers++) {
            for (int last = 0; last < workers; last++) {
                int n = workers;
                int w = last;
                CHECK.refused("worker " + w + " of " + n, Check.NOT_NOW, () -> {
                    CheckpointedStream x = Streams.withEventsTaken(n);
                    Streams.completeCheckpoint(x);
                    for (int worker = 0; worker < n; worker++) {
                        if (worker != w) {
                            x.commit(worker);
                        }
                    }
                    return x;
                }, CheckpointedStream::beginCheckpoint);
            }
        }
        CHECK.refused("all sealed", Check.NOT_NOW, Streams::withCompleteCheckpoint,
                CheckpointedStream::beginCheckpoint);
    }

    private static void emptySealed() {
        CHECK.refused("empty ones", Check.NOT_NOW, () -> {
            CheckpointedStream x = new CheckpointedStream();
            Streams.completeCheckpoint(x);
            x.commit(0);
            return x;
        }, CheckpointedStream::beginCheckpoint);
    }

    private static void allCommitted() {
        for (int workers = 1; workers <= 4; workers++) {
            CheckpointedStream x = Streams.withEventsTaken(workers);
            Streams.completeCheckpoint(x);
            Streams.commitAll(x);
            CHECK.same("beginCheckpoint", x.beginCheckpoint(), 2);
        }
    }

    private static void startedAgain() {
        CheckpointedStream x = Streams.withCompleteCheckpoint();
        x.crash();
        CHECK.same("after a crash", x.beginCheckpoint(), 2);
        CheckpointedStream y = Streams.withCompleteCheckpoint();
        y.rescale(3);
        CHECK.same("after a rescale", y.beginCheckpoint(), 2);
        CheckpointedStream z = Streams.withCheckpointUnderWay();
        z.abandon();
        CHECK.same("after an abandoned one that a worker had sealed", z.beginCheckpoint(), 3);
    }

    private static void refusedUsesNoNumber() {
        CheckpointedStream x = new CheckpointedStream();
        x.beginCheckpoint();
        for (int i = 0; i < 3; i++) {
            CHECK.throwsIt("beginCheckpoint", Check.NOT_NOW, x::beginCheckpoint);
        }
        x.abandon();
        CHECK.same("the next one", x.beginCheckpoint(), 2);
        CheckpointedStream y = Streams.withCompleteCheckpoint();
        CHECK.throwsIt("beginCheckpoint while sealed", Check.NOT_NOW, y::beginCheckpoint);
        Streams.commitAll(y);
        CHECK.same("the next one after a complete one", y.beginCheckpoint(), 2);
    }
}
