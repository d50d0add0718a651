/** Promise 7: commit. */
final class CommitTest {
    private static final Check CHECK = new Check("CommitTest");

    public static void main(String[] args) {
        CHECK.sentence("it returns the sum of the transaction's counts", CommitTest::returnsTheCounts);
        CHECK.sentence("the counts and sums are added to those of the sink", CommitTest::addsToTheSink);
        CHECK.sentence("the transaction of that worker alone is committed", CommitTest::thatWorkerAlone);
        CHECK.sentence("what is in the open transaction is not committed", CommitTest::notTheOpen);
        CHECK.sentence("the transaction is sealed no more", CommitTest::sealedNoMore);
        CHECK.sentence("an empty transaction is committed", CommitTest::emptyTransaction);
        CHECK.sentence("workers commit in any order, 1 to 4 of them", CommitTest::anyOrder);
        CHECK.sentence("state, checkpoint and channels stay", CommitTest::allElseStays);
        CHECK.sentence("the next transaction has what came since alone", CommitTest::nextTransaction);
        CHECK.sentence("it has no sealed transaction: refused", CommitTest::noSealed);
        CHECK.sentence("a second time: refused", CommitTest::twice);
        CHECK.sentence("the checkpoint is not complete: refused", CommitTest::notComplete);
        CHECK.sentence("an older complete checkpoint is not enough: refused", CommitTest::olderComplete);
        CHECK.sentence("no such worker: IndexOutOfBoundsException", CommitTest::noSuchWorker);
        CHECK.sentence("no such worker decides first", CommitTest::noSuchWorkerFirst);
        CHECK.finish();
    }

    private static void returnsTheCounts() {
        CheckpointedStream x = Streams.withCompleteCheckpoint();
        CHECK.same("two events of one key", x.commit(0), 2);
        CHECK.same("one event", x.commit(1), 1);
        CheckpointedStream many = new CheckpointedStream();
        for (int key = 0; key < 32; key++) {
            Streams.append(many, key % 4, key, 100, key % 8 < 4 ? 4 : 1);
        }
        many.pump(20);
        Streams.completeCheckpoint(many);
        CHECK.same("16 keys, four of each", many.commit(0), 64);
        CHECK.same("16 keys, one of each", many.commit(1), 16);
    }

    private static void addsToTheSink() {
        CheckpointedStream x = Streams.completeOf(2);
        Streams.commitAll(x);
        x.append(0, 0, 7);
        x.append(0, 24, 8);
        x.pump(2);
        Streams.completeCheckpoint(x);
        CHECK.same("commit", x.commit(0), 2);
        CHECK.same("committedCount of a key that was there", x.committedCount(0), 3);
        CHECK.same("committedSum of it", x.committedSum(0), 37);
        CHECK.same("committedCount of a new key", x.committedCount(24), 1);
        CHECK.same("committedSum of it", x.committedSum(24), 8);
        CHECK.same("committedCount of another", x.committedCount(8), 1);
        CHECK.same("committedSum of it", x.committedSum(8), 5);
    }

    private static void thatWorkerAlone() {
        for (int workers = 1; workers <= 4; workers++) {
            for (int worker = 0; worker < workers; worker++) {
                CheckpointedStream x = Streams.completeOf(workers);
                CHECK.same("commit", x.commit(worker), 3);
                CHECK.same("committed", x.committed(), 3);
                for (int other = 0; other < workers; other++) {
                    boolean own = other == worker;
                    int key = Streams.keyOf(workers, other, 0);
                    CHECK.same("sealed", x.sealed(other), own ? CheckpointedStream.NONE : 1);
                    CHECK.same("committedCount", x.committedCount(key), own ? 2 : 0);
                    CHECK.same("committedSum", x.committedSum(key), own ? 30 : 0);
                }
            }
        }
    }

    private static void notTheOpen() {
        CheckpointedStream x = Streams.completeOf(2);
        x.append(0, 0, 50);
        x.pump(1);
        CHECK.same("commit", x.commit(0), 3);
        CHECK.same("committedSum", x.committedSum(0), 30);
        CHECK.same("open", x.open(0), 1);
    }

    private static void sealedNoMore() {
        CheckpointedStream x = Streams.completeOf(3);
        x.commit(2);
        CHECK.same("sealed(2)", x.sealed(2), CheckpointedStream.NONE);
        CHECK.same("sealed(0)", x.sealed(0), 1);
        CHECK.same("sealed(1)", x.sealed(1), 1);
    }

    private static void emptyTransaction() {
        for (int workers = 1; workers <= 4; workers++) {
            CheckpointedStream x = Streams.ofWorkers(workers);
            Streams.completeCheckpoint(x);
            for (int worker = 0; worker < workers; worker++) {
                CHECK.same("sealed", x.sealed(worker), 1);
                CHECK.same("commit", x.commit(worker), 0);
                CHECK.same("sealed then", x.sealed(worker), CheckpointedStream.NONE);
            }
            CHECK.same("committed", x.committed(), 0);
        }
    }

    private static void anyOrder() {
        for (int workers = 1; workers <= 4; workers++) {
            for (int first = 0; first < workers; first++) {
                CheckpointedStream x = Streams.completeOf(workers);
                for (int i = 1; i <= workers; i++) {
                    CHECK.same("commit", x.commit((first + workers - i) % workers), 3);
                    CHECK.same("committed", x.committed(), 3 * i);
                }
            }
        }
    }

    private static void allElseStays() {
        CheckpointedStream x = Streams.completeOf(2);
        Streams.fill(x, 0, 0, 2);
        x.commit(0);
        CHECK.same("complete", x.complete(), 1);
        CHECK.same("underWay", x.underWay(), CheckpointedStream.NONE);
        CHECK.same("count", x.count(0), 2);
        CHECK.same("sum", x.sum(0), 30);
        CHECK.same("keptSum", x.keptSum(0), 30);
        CHECK.same("keptOffset", x.keptOffset(0), 3);
        CHECK.same("queued", x.queued(0, 0), 2);
        CHECK.same("offset", x.offset(0), 5);
    }

    private static void nextTransaction() {
        CheckpointedStream x = Streams.completeOf(1);
        x.commit(0);
        for (int number = 2; number <= 5; number++) {
            Streams.append(x, 3, 7, number, number);
            x.pump(number);
            Streams.completeCheckpoint(x);
            CHECK.same("commit", x.commit(0), number);
        }
        CHECK.same("committed", x.committed(), 3 + 2 + 3 + 4 + 5);
        CHECK.same("committedSum", x.committedSum(7), 4 + 9 + 16 + 25);
    }

    private static void noSealed() {
        for (int workers = 1; workers <= 4; workers++) {
            for (int worker = 0; worker < workers; worker++) {
                int n = workers;
                int w = worker;
                CHECK.refused("nothing taken", Check.NOT_NOW, () -> Streams.ofWorkers(n), x -> x.commit(w));
                CHECK.refused("open alone", Check.NOT_NOW, () -> Streams.withEventsTaken(n), x -> x.commit(w));
                CHECK.refused("started again", Check.NOT_NOW, () -> {
                    CheckpointedStream x = Streams.completeOf(n);
                    x.crash();
                    return x;
                }, x -> x.commit(w));
            }
        }
        CHECK.refused("abandoned", Check.NOT_NOW, () -> {
            CheckpointedStream x = Streams.withCheckpointUnderWay();
            x.abandon();
            return x;
        }, x -> x.commit(0));
        CHECK.refused("under way, three barriers of four", Check.NOT_NOW, () -> {
            CheckpointedStream x = Streams.withEventsTaken(1);
            Streams.beginAndSend(x);
            x.take(0, 0);
            x.take(0, 1);
            x.take(0, 2);
            return x;
        }, x -> x.commit(0));
    }

    private static void twice() {
        for (int worker = 0; worker < 3; worker++) {
            int w = worker;
            CHECK.refused("twice", Check.NOT_NOW, () -> {
                CheckpointedStream x = Streams.completeOf(3);
                x.commit(w);
                return x;
            }, x -> x.commit(w));
        }
    }

    private static void notComplete() {
        for (int workers = 2; workers <= 4; workers++) {
            for (int worker = 0; worker < workers; worker++) {
                int n = workers;
                int w = worker;
                CHECK.refused("one has sealed", Check.NOT_NOW, () -> {
                    CheckpointedStream x = Streams.withEventsTaken(n);
                    Streams.beginAndSend(x);
                    Streams.takeFromAll(x, w);
                    return x;
                }, x -> x.commit(w));
                CHECK.refused("all but one have sealed", Check.NOT_NOW, () -> {
                    CheckpointedStream x = Streams.withEventsTaken(n);
                    Streams.beginAndSend(x);
                    for (int i = 1; i < n; i++) {
                        Streams.takeFromAll(x, (w + i) % n);
                    }
                    return x;
                }, x -> x.commit((w + 1) % n));
            }
        }
    }

    private static void olderComplete() {
        CHECK.refused("sealed for the second", Check.NOT_NOW, Streams::withCheckpointUnderWay, x -> x.commit(0));
        CHECK.refused("not sealed for the second", Check.NOT_NOW, Streams::withCheckpointUnderWay, x -> x.commit(1));
    }

    private static void noSuchWorker() {
        for (int workers = 1; workers <= 4; workers++) {
            int n = workers;
            CHECK.takenFromTo("worker", 0, n - 1, Check.NO_SUCH, () -> Streams.completeOf(n),
                    CheckpointedStream::commit);
        }
    }

    private static void noSuchWorkerFirst() {
        CHECK.refused("none sealed", Check.NO_SUCH, CheckpointedStream::new, x -> x.commit(2));
        CHECK.refused("none sealed", Check.NO_SUCH, CheckpointedStream::new, x -> x.commit(-1));
        CHECK.refused("not complete", Check.NO_SUCH, Streams::withCheckpointUnderWay, x -> x.commit(2));
        CHECK.refused("a worker that is gone", Check.NO_SUCH, () -> {
            CheckpointedStream x = Streams.completeOf(4);
            x.rescale(2);
            return x;
        }, x -> x.commit(2));
    }
}
