/** Promises 18 to 24: workers, workerOf, groupsOf, count, sum, open, sealed. */
final class WorkersTest {
    private static final Check CHECK = new Check("WorkersTest");
    private static final Looks LOOKS = new Looks(CHECK);

    public static void main(String[] args) {
        CHECK.sentence("workers: how many there are, 1 to 4", WorkersTest::howMany);
        CHECK.sentence("workers: changes nothing", () -> LOOKS.changesNothing(CheckpointedStream::workers));
        CHECK.sentence("workerOf: group g belongs to the worker g * n / 8, rounded down", WorkersTest::ownersOfKeys);
        CHECK.sentence("workerOf: no such key", () -> LOOKS.noSuchKey(CheckpointedStream::workerOf));
        CHECK.sentence("workerOf: changes nothing", () -> LOOKS.changesNothing(x -> x.workerOf(0)));
        CHECK.sentence("groupsOf: 10 times the first, and how many", WorkersTest::firstAndHowMany);
        CHECK.sentence("groupsOf: no such worker", () -> LOOKS.noSuchWorker(CheckpointedStream::groupsOf));
        CHECK.sentence("groupsOf: changes nothing", () -> LOOKS.changesNothing(x -> x.groupsOf(0)));
        CHECK.sentence("count: of that key, in the state", WorkersTest::countsOfKeys);
        CHECK.sentence("count: no such key", () -> LOOKS.noSuchKey(CheckpointedStream::count));
        CHECK.sentence("count: changes nothing", () -> LOOKS.changesNothing(x -> x.count(1)));
        CHECK.sentence("sum: of that key, in the state", WorkersTest::sumsOfKeys);
        CHECK.sentence("sum: no such key", () -> LOOKS.noSuchKey(CheckpointedStream::sum));
        CHECK.sentence("sum: changes nothing", () -> LOOKS.changesNothing(x -> x.sum(1)));
        CHECK.sentence("count, sum: of what is taken, not of what is read", WorkersTest::takenAlone);
        CHECK.sentence("open: the sum of the counts of all its keys", WorkersTest::openOfAllKeys);
        CHECK.sentence("open: of that worker", WorkersTest::openOfThatWorker);
        CHECK.sentence("open: what is sealed is not in it", WorkersTest::openNotSealed);
        CHECK.sentence("open: no such worker", () -> LOOKS.noSuchWorker(CheckpointedStream::open));
        CHECK.sentence("open: changes nothing", () -> LOOKS.changesNothing(x -> x.open(0)));
        CHECK.sentence("sealed: the checkpoint under way", WorkersTest::sealedUnderWay);
        CHECK.sentence("sealed: the complete checkpoint, until it is committed", WorkersTest::sealedComplete);
        CHECK.sentence("sealed: NONE if it has none", WorkersTest::sealedNone);
        CHECK.sentence("sealed: no such worker", () -> LOOKS.noSuchWorker(CheckpointedStream::sealed));
        CHECK.sentence("sealed: changes nothing", () -> LOOKS.changesNothing(x -> x.sealed(0)));
        CHECK.finish();
    }

    private static void howMany() {
        for (int workers = 1; workers <= 4; workers++) {
            CHECK.same("workers", Streams.ofWorkers(workers).workers(), workers);
        }
        CHECK.same("at first", new CheckpointedStream().workers(), 2);
    }

    private static void ownersOfKeys() {
        int[][] owners = {
            {0, 0, 0, 0, 0, 0, 0, 0},
            {0, 0, 0, 0, 1, 1, 1, 1},
            {0, 0, 0, 1, 1, 1, 2, 2},
            {0, 0, 1, 1, 2, 2, 3, 3},
        };
        for (int workers = 1; workers <= 4; workers++) {
            CheckpointedStream x = Streams.ofWorkers(workers);
            for (int key = 0; key < 32; key++) {
                CHECK.same("workerOf(" + key + ") of " + workers, x.workerOf(key), owners[workers - 1][key % 8]);
            }
        }
    }

    private static void firstAndHowMany() {
        int[][] groups = {{8}, {4, 44}, {3, 33, 62}, {2, 22, 42, 62}};
        for (int workers = 1; workers <= 4; workers++) {
            CheckpointedStream x = Streams.ofWorkers(workers);
            for (int worker = 0; worker < workers; worker++) {
                CHECK.same("groupsOf(" + worker + ") of " + workers, x.groupsOf(worker), groups[workers - 1][worker]);
            }
        }
    }

    /** Key k has taken k % 4 + 1 events with the value k + 1. */
    private static CheckpointedStream withAllKeys(int workers) {
        CheckpointedStream x = Streams.ofWorkers(workers);
        for (int key = 0; key < 32; key++) {
            Streams.append(x, key / 8, key, key + 1, key % 4 + 1);
        }
        x.pump(20);
        return x;
    }

    private static void countsOfKeys() {
        for (int workers = 1; workers <= 4; workers++) {
            CheckpointedStream x = withAllKeys(workers);
            for (int key = 0; key < 32; key++) {
                CHECK.same("count(" + key + ")", x.count(key), key % 4 + 1);
            }
        }
    }

    private static void sumsOfKeys() {
        for (int workers = 1; workers <= 4; workers++) {
            CheckpointedStream x = withAllKeys(workers);
            for (int key = 0; key < 32; key++) {
                CHECK.same("sum(" + key + ")", x.sum(key), (key % 4 + 1) * (key + 1));
            }
        }
        CheckpointedStream most = new CheckpointedStream();
        Streams.append(most, 0, 31, 100, 60);
        Streams.append(most, 1, 31, 100, 60);
        Streams.append(most, 2, 31, 100, 60);
        Streams.append(most, 3, 31, 100, 60);
        for (int i = 0; i < 3; i++) {
            most.pump(20);
        }
        CHECK.same("the largest count", most.count(31), 240);
        CHECK.same("the largest sum", most.sum(31), 24000);
    }

    private static void takenAlone() {
        CheckpointedStream x = new CheckpointedStream();
        Streams.fill(x, 0, 9, 3);
        x.append(0, 9, 100);
        CHECK.same("count of what is read", x.count(9), 0);
        CHECK.same("sum of what is read", x.sum(9), 0);
        x.take(0, 0);
        x.take(0, 0);
        CHECK.same("count of what is taken", x.count(9), 2);
        CHECK.same("sum of what is taken", x.sum(9), 3);
    }

    private static void openOfAllKeys() {
        CHECK.same("one worker of all keys", withAllKeys(1).open(0), 80);
        CheckpointedStream x = withAllKeys(4);
        CHECK.same("open(0) of four", x.open(0), 12);
        CHECK.same("open(1) of four", x.open(1), 28);
        CHECK.same("open(2) of four", x.open(2), 12);
        CHECK.same("open(3) of four", x.open(3), 28);
    }

    private static void openOfThatWorker() {
        for (int workers = 1; workers <= 4; workers++) {
            for (int owner = 0; owner < workers; owner++) {
                CheckpointedStream x = Streams.ofWorkers(workers);
                Streams.fill(x, 2, Streams.keyOf(workers, owner, 1), 5);
                x.pump(20);
                for (int worker = 0; worker < workers; worker++) {
                    CHECK.same("open", x.open(worker), worker == owner ? 5 : 0);
                }
            }
        }
    }

    private static void openNotSealed() {
        CheckpointedStream x = Streams.withCompleteCheckpoint();
        CHECK.same("open", x.open(0), 0);
        x.append(0, 3, 1);
        x.pump(1);
        CHECK.same("open then", x.open(0), 1);
        x.commit(0);
        CHECK.same("open after commit", x.open(0), 1);
    }

    private static void sealedUnderWay() {
        for (int sealing = 0; sealing < 4; sealing++) {
            CheckpointedStream x = Streams.ofWorkers(4);
            x.beginCheckpoint();
            x.abandon();
            Streams.beginAndSend(x);
            Streams.takeFromAll(x, sealing);
            for (int worker = 0; worker < 4; worker++) {
                CHECK.same("sealed", x.sealed(worker), worker == sealing ? 2 : CheckpointedStream.NONE);
            }
        }
    }

    private static void sealedComplete() {
        CheckpointedStream x = Streams.withCompleteCheckpoint();
        CHECK.same("sealed(0)", x.sealed(0), 1);
        CHECK.same("sealed(1)", x.sealed(1), 1);
        x.commit(1);
        CHECK.same("sealed(1) when committed", x.sealed(1), CheckpointedStream.NONE);
        CHECK.same("sealed(0) then", x.sealed(0), 1);
    }

    private static void sealedNone() {
        CheckpointedStream x = Streams.withEventsTaken(2);
        CHECK.same("open alone", x.sealed(0), CheckpointedStream.NONE);
        Streams.beginAndSend(x);
        CHECK.same("barriers sent", x.sealed(0), CheckpointedStream.NONE);
        x.take(0, 0);
        x.take(0, 1);
        x.take(0, 2);
        CHECK.same("three barriers", x.sealed(0), CheckpointedStream.NONE);
        x.take(0, 3);
        CHECK.same("four barriers", x.sealed(0), 1);
        x.abandon();
        CHECK.same("abandoned", x.sealed(0), CheckpointedStream.NONE);
        CheckpointedStream lost = Streams.withCheckpointUnderWay();
        lost.crash();
        CHECK.same("lost", lost.sealed(0), CheckpointedStream.NONE);
    }
}
