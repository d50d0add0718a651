/** Promise 11: rescale. */
final class RescaleTest {
    private static final Check CHECK = new Check("RescaleTest");

    /** How many groups change their worker, from 1 to 4 workers to 1 to 4. */
    private static final int[][] MOVED = {
        {0, 4, 5, 6},
        {4, 0, 3, 6},
        {5, 3, 0, 5},
        {6, 6, 5, 0},
    };

    public static void main(String[] args) {
        CHECK.sentence("it returns how many groups change their worker", RescaleTest::countsGroups);
        CHECK.sentence("there are so many workers then", RescaleTest::soManyWorkers);
        CHECK.sentence("groups and keys belong to the workers anew", RescaleTest::groupsAnew);
        CHECK.sentence("all starts again as after a crash", RescaleTest::startsAgain);
        CHECK.sentence("to as many workers it starts again too", RescaleTest::toAsMany);
        CHECK.sentence("sealed transactions of a complete checkpoint are committed", RescaleTest::commitsTheSealed);
        CHECK.sentence("sealed transactions of one under way, and open ones, are lost", RescaleTest::losesTheOthers);
        CHECK.sentence("the channels of all workers are empty and free", RescaleTest::channelsEmptyAndFree);
        CHECK.sentence("kept counts and sums go to the keys' workers", RescaleTest::keptGoToTheWorkers);
        CHECK.sentence("workers have no transaction from before", RescaleTest::noTransactions);
        CHECK.sentence("checkpoints go on with the workers that there are", RescaleTest::checkpointsGoOn);
        CHECK.sentence("the latest complete checkpoint and its number stay", RescaleTest::completeStays);
        CHECK.sentence("partitions and the sink stay", RescaleTest::partitionsAndSinkStay);
        CHECK.sentence("workers out of range: IllegalArgumentException", RescaleTest::workersOutOfRange);
        CHECK.finish();
    }

    private static CheckpointedStream rescaled(CheckpointedStream x, int workers) {
        x.rescale(workers);
        return x;
    }

    private static void countsGroups() {
        for (int from = 1; from <= 4; from++) {
            for (int to = 1; to <= 4; to++) {
                CheckpointedStream x = Streams.ofWorkers(from);
                CHECK.same("rescale from " + from + " to " + to, x.rescale(to), MOVED[from - 1][to - 1]);
            }
        }
        CHECK.same("from the two at first to 3", new CheckpointedStream().rescale(3), 3);
    }

    private static void soManyWorkers() {
        for (int from = 1; from <= 4; from++) {
            for (int to = 1; to <= 4; to++) {
                int a = from;
                int n = to;
                CheckpointedStream x = rescaled(Streams.ofWorkers(a), n);
                CHECK.same("workers", x.workers(), n);
                CHECK.same("the last worker", x.open(n - 1), 0);
                CHECK.refused("one more", Check.NO_SUCH, () -> rescaled(Streams.ofWorkers(a), n), y -> y.open(n));
            }
        }
    }

    private static void groupsAnew() {
        int[][] groups = {{8}, {4, 44}, {3, 33, 62}, {2, 22, 42, 62}};
        CheckpointedStream x = new CheckpointedStream();
        for (int workers : new int[] {4, 1, 3, 2, 4, 3, 1, 2}) {
            x.rescale(workers);
            for (int worker = 0; worker < workers; worker++) {
                CHECK.same("groupsOf", x.groupsOf(worker), groups[workers - 1][worker]);
            }
            for (int key = 0; key < 8; key++) {
                CHECK.same("workerOf", x.workerOf(24 + key), key * workers / 8);
            }
        }
    }

    private static void startsAgain() {
        for (int workers = 1; workers <= 4; workers++) {
            int n = workers;
            CHECK.sameAs("to " + n, () -> rescaled(Streams.withCheckpointUnderWay(), n), () -> {
                CheckpointedStream x = Streams.withCheckpointUnderWay();
                x.crash();
                return rescaled(x, n);
            });
            CHECK.sameAs("with sealed ones, to " + n, () -> rescaled(Streams.withCompleteCheckpoint(), n), () -> {
                CheckpointedStream x = Streams.withCompleteCheckpoint();
                x.crash();
                return rescaled(x, n);
            });
            CheckpointedStream x = rescaled(Streams.withCheckpointUnderWay(), n);
            CHECK.same("offset(0)", x.offset(0), 1);
            CHECK.same("offset(3)", x.offset(3), 0);
            CHECK.same("sum", x.sum(1), 30);
            CHECK.same("count", x.count(1), 2);
            CHECK.same("underWay", x.underWay(), CheckpointedStream.NONE);
            CheckpointedStream first = rescaled(Streams.withEventsTaken(3), n);
            CHECK.same("offset without a complete one", first.offset(0), 0);
            CHECK.same("sum without a complete one", first.sum(0), 0);
        }
    }

    private static void toAsMany() {
        for (int workers = 1; workers <= 4; workers++) {
            int n = workers;
            CHECK.sameAs("of events taken", () -> rescaled(Streams.withEventsTaken(n), n), () -> {
                CheckpointedStream x = Streams.withEventsTaken(n);
                x.crash();
                return x;
            });
            CheckpointedStream x = Streams.withEventsTaken(n);
            CHECK.same("rescale", x.rescale(n), 0);
            CHECK.same("offset", x.offset(0), 0);
        }
    }

    private static void commitsTheSealed() {
        for (int from = 1; from <= 4; from++) {
            for (int to = 1; to <= 4; to++) {
                CheckpointedStream x = Streams.completeOf(from);
                x.commit(0);
                x.rescale(to);
                CHECK.same("committed", x.committed(), 3 * from);
                for (int worker = 0; worker < from; worker++) {
                    CHECK.same("committedCount", x.committedCount(Streams.keyOf(from, worker, 0)), 2);
                    CHECK.same("committedSum", x.committedSum(Streams.keyOf(from, worker, 0)), 30);
                }
            }
        }
    }

    private static void losesTheOthers() {
        for (int to = 1; to <= 4; to++) {
            CheckpointedStream x = rescaled(Streams.withCheckpointUnderWay(), to);
            CHECK.same("committed", x.committed(), 3);
            CHECK.same("committedSum", x.committedSum(1), 30);
            for (int worker = 0; worker < to; worker++) {
                CHECK.same("open", x.open(worker), 0);
                CHECK.same("sealed", x.sealed(worker), CheckpointedStream.NONE);
            }
            Streams.completeCheckpoint(x);
            x.crash();
            CHECK.same("nothing of them comes later", x.committed(), 3);
        }
    }

    private static void channelsEmptyAndFree() {
        for (int from = 1; from <= 4; from++) {
            for (int to = 1; to <= 4; to++) {
                CheckpointedStream x = rescaled(withChannelsInUse(from), to);
                checkChannels(x, to);
                x.rescale(4);
                checkChannels(x, 4);
            }
        }
    }

    private static CheckpointedStream withChannelsInUse(int workers) {
        CheckpointedStream x = Streams.ofWorkers(workers);
        Streams.beginAndSend(x);
        for (int partition = 0; partition < 4; partition++) {
            for (int worker = 0; worker < workers; worker++) {
                Streams.fill(x, partition, Streams.keyOf(workers, worker, 1), 7);
            }
        }
        for (int worker = 0; worker < workers; worker++) {
            x.take(worker, 0);
            x.take(worker, 2);
        }
        return x;
    }

    private static void checkChannels(CheckpointedStream x, int workers) {
        for (int partition = 0; partition < 4; partition++) {
            for (int worker = 0; worker < workers; worker++) {
                CHECK.same("queued", x.queued(partition, worker), 0);
                CHECK.no("isBlocked", x.isBlocked(partition, worker));
            }
        }
    }

    private static void keptGoToTheWorkers() {
        for (int from = 1; from <= 4; from++) {
            for (int to = 1; to <= 4; to++) {
                CheckpointedStream x = rescaled(Streams.completeOf(from), to);
                for (int worker = 0; worker < from; worker++) {
                    int key = Streams.keyOf(from, worker, 0);
                    CHECK.same("count", x.count(key), 2);
                    CHECK.same("sum", x.sum(key), 30);
                    x.append(3, key, 1);
                    int owner = x.read(3);
                    CHECK.same("read", owner, key % 8 * to / 8);
                    CHECK.same("take", x.take(owner, 3), 3);
                    CHECK.same("sum then", x.sum(key), 31);
                }
            }
        }
    }

    private static void noTransactions() {
        for (int from = 1; from <= 4; from++) {
            for (int to = 1; to <= 4; to++) {
                CheckpointedStream x = rescaled(Streams.completeOf(from), to);
                for (int worker = 0; worker < to; worker++) {
                    int w = worker;
                    CHECK.same("open", x.open(w), 0);
                    CHECK.same("sealed", x.sealed(w), CheckpointedStream.NONE);
                    CHECK.throwsIt("commit", Check.NOT_NOW, () -> x.commit(w));
                }
                CHECK.same("beginCheckpoint", x.beginCheckpoint(), 2);
            }
        }
    }

    private static void checkpointsGoOn() {
        for (int from = 1; from <= 4; from++) {
            for (int to = 1; to <= 4; to++) {
                CheckpointedStream x = rescaled(Streams.completeOf(from), to);
                int key = Streams.keyOf(to, to - 1, 3);
                x.append(3, key, 9);
                x.pump(20);
                Streams.beginAndSend(x);
                for (int worker = 0; worker < to; worker++) {
                    CHECK.same("complete", x.complete(), 1);
                    Streams.takeFromAll(x, worker);
                }
                CHECK.same("complete by all of " + to, x.complete(), 2);
                CHECK.same("keptSum", x.keptSum(key), 9);
                CHECK.same("keptSum of another", x.keptSum(0), 30);
                x.rescale(from);
                CHECK.same("sum", x.sum(key), 9);
                CHECK.same("committedSum", x.committedSum(key), 9);
            }
        }
    }

    private static void completeStays() {
        for (int to = 1; to <= 4; to++) {
            CheckpointedStream x = rescaled(Streams.withCheckpointUnderWay(), to);
            CHECK.same("complete", x.complete(), 1);
            CHECK.same("keptOffset", x.keptOffset(0), 1);
            CHECK.same("keptSum", x.keptSum(1), 30);
            CHECK.same("keptSum of another", x.keptSum(4), 7);
            CHECK.same("the next number", x.beginCheckpoint(), 3);
            CHECK.same("crash", x.crash(), 1);
        }
    }

    private static void partitionsAndSinkStay() {
        for (int to = 1; to <= 4; to++) {
            CheckpointedStream x = rescaled(Streams.withCheckpointUnderWay(), to);
            CHECK.same("events(0)", x.events(0), 3);
            CHECK.same("events(1)", x.events(1), 2);
            CHECK.same("eventAt(0, 2)", x.eventAt(0, 2), 1033);
            CHECK.same("committed", x.committed(), 3);
            CHECK.same("committedCount", x.committedCount(4), 1);
            CHECK.same("committedSum", x.committedSum(4), 7);
        }
    }

    private static void workersOutOfRange() {
        CHECK.takenFromTo("workers", 1, 4, Check.OUT_OF_RANGE, Streams::withCheckpointUnderWay,
                CheckpointedStream::rescale);
        CHECK.takenFromTo("workers", 1, 4, Check.OUT_OF_RANGE, Streams::withCompleteCheckpoint,
                CheckpointedStream::rescale);
        CHECK.takenFromTo("workers", 1, 4, Check.OUT_OF_RANGE, () -> Streams.withEventsTaken(4),
                CheckpointedStream::rescale);
    }
}
