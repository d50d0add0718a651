/** Promises 30 to 34: committedCount, committedSum, committed, readSum, sumInChannels. */
final class SinkTest {
    private static final Check CHECK = new Check("SinkTest");
    private static final Looks LOOKS = new Looks(CHECK);

    public static void main(String[] args) {
        CHECK.sentence("committedCount: of that key in the sink", SinkTest::countsInTheSink);
        CHECK.sentence("committedCount: no such key", () -> LOOKS.noSuchKey(CheckpointedStream::committedCount));
        CHECK.sentence("committedCount: changes nothing", () -> LOOKS.changesNothing(x -> x.committedCount(1)));
        CHECK.sentence("committedSum: of that key in the sink", SinkTest::sumsInTheSink);
        CHECK.sentence("committedSum: no such key", () -> LOOKS.noSuchKey(CheckpointedStream::committedSum));
        CHECK.sentence("committedSum: changes nothing", () -> LOOKS.changesNothing(x -> x.committedSum(1)));
        CHECK.sentence("committed: the sum of the counts of all keys", SinkTest::committedOfAllKeys);
        CHECK.sentence("committed: changes nothing", () -> LOOKS.changesNothing(CheckpointedStream::committed));
        CHECK.sentence("what is open or sealed is not in the sink", SinkTest::committedAlone);
        CHECK.sentence("readSum: of the events ahead of the readers' offsets", SinkTest::aheadOfTheOffsets);
        CHECK.sentence("readSum: of that key", SinkTest::readSumOfThatKey);
        CHECK.sentence("readSum: in all partitions", SinkTest::readSumOfAllPartitions);
        CHECK.sentence("readSum: goes back with the readers", SinkTest::readSumGoesBack);
        CHECK.sentence("readSum: no such key", () -> LOOKS.noSuchKey(CheckpointedStream::readSum));
        CHECK.sentence("readSum: changes nothing", () -> LOOKS.changesNothing(x -> x.readSum(1)));
        CHECK.sentence("sumInChannels: of all events that are in channels", SinkTest::sumOfAllChannels);
        CHECK.sentence("sumInChannels: of that key", SinkTest::sumInChannelsOfThatKey);
        CHECK.sentence("sumInChannels: barriers have no value", SinkTest::barriersHaveNoValue);
        CHECK.sentence("sumInChannels: what is taken is not in it", SinkTest::takenIsNotInChannels);
        CHECK.sentence("sumInChannels: no such key", () -> LOOKS.noSuchKey(CheckpointedStream::sumInChannels));
        CHECK.sentence("sumInChannels: changes nothing", () -> LOOKS.changesNothing(x -> x.sumInChannels(4)));
        CHECK.sentence("what is read is taken or in channels", SinkTest::readIsTakenOrInChannels);
        CHECK.finish();
    }

    /** Key k has k % 3 events with the value k + 1, all of them in the sink. */
    private static CheckpointedStream withAllKeysCommitted(int workers) {
        CheckpointedStream x = Streams.ofWorkers(workers);
        for (int key = 0; key < 32; key++) {
            Streams.append(x, key % 4, key, key + 1, key % 3);
        }
        x.pump(20);
        Streams.completeCheckpoint(x);
        Streams.commitAll(x);
        return x;
    }

    private static void countsInTheSink() {
        for (int workers = 1; workers <= 4; workers++) {
            CheckpointedStream x = withAllKeysCommitted(workers);
            for (int key = 0; key < 32; key++) {
                CHECK.same("committedCount(" + key + ")", x.committedCount(key), key % 3);
            }
        }
    }

    private static void sumsInTheSink() {
        for (int workers = 1; workers <= 4; workers++) {
            CheckpointedStream x = withAllKeysCommitted(workers);
            for (int key = 0; key < 32; key++) {
                CHECK.same("committedSum(" + key + ")", x.committedSum(key), key % 3 * (key + 1));
            }
        }
    }

    private static void committedOfAllKeys() {
        for (int workers = 1; workers <= 4; workers++) {
            CHECK.same("committed", withAllKeysCommitted(workers).committed(), 31);
        }
        CheckpointedStream x = new CheckpointedStream();
        for (int partition = 0; partition < 4; partition++) {
            Streams.append(x, partition, 31, 100, 60);
        }
        x.pump(20);
        x.pump(20);
        x.pump(20);
        Streams.completeCheckpoint(x);
        CHECK.same("the most that a commit returns", x.commit(1), 240);
        CHECK.same("the most", x.committed(), 240);
        CHECK.same("the largest sum", x.committedSum(31), 24000);
    }

    private static void committedAlone() {
        CheckpointedStream x = Streams.withEventsTaken(2);
        CHECK.same("open", x.committed() + x.committedCount(0) + x.committedSum(0), 0);
        Streams.beginAndSend(x);
        Streams.takeFromAll(x, 0);
        CHECK.same("sealed", x.committed() + x.committedCount(0) + x.committedSum(0), 0);
        Streams.takeFromAll(x, 1);
        CHECK.same("complete", x.committed() + x.committedCount(0) + x.committedSum(0), 0);
        x.commit(0);
        CHECK.same("committed", x.committed(), 3);
        CHECK.same("committedCount", x.committedCount(0), 2);
        CHECK.same("committedSum", x.committedSum(0), 30);
        CHECK.same("of the other worker", x.committedCount(4) + x.committedSum(4), 0);
    }

    private static void aheadOfTheOffsets() {
        for (int partition = 0; partition < 4; partition++) {
            CheckpointedStream x = new CheckpointedStream();
            for (int i = 1; i <= 60; i++) {
                x.append(partition, 9, i);
            }
            for (int i = 0; i <= 60; i++) {
                CHECK.same("readSum with " + i + " read", x.readSum(9), i * (i + 1) / 2);
                x.pump(1);
            }
        }
    }

    private static void readSumOfThatKey() {
        CheckpointedStream x = new CheckpointedStream();
        for (int key = 0; key < 32; key++) {
            x.append(key % 4, key, key + 1);
        }
        x.pump(7);
        for (int key = 0; key < 32; key++) {
            CHECK.same("readSum(" + key + ")", x.readSum(key), key < 28 ? key + 1 : 0);
        }
    }

    private static void readSumOfAllPartitions() {
        CheckpointedStream x = new CheckpointedStream();
        for (int partition = 0; partition < 4; partition++) {
            x.append(partition, 9, 1 << partition);
            x.append(partition, 9, 64);
        }
        CHECK.same("none read", x.readSum(9), 0);
        for (int partition = 3; partition >= 0; partition--) {
            x.read(partition);
            CHECK.same("read from " + partition, x.readSum(9), 16 - (1 << partition));
        }
    }

    private static void readSumGoesBack() {
        CheckpointedStream x = Streams.withCheckpointUnderWay();
        CHECK.same("readSum ahead", x.readSum(1), 80);
        x.crash();
        CHECK.same("readSum then", x.readSum(1), 30);
        CheckpointedStream first = Streams.withEventsTaken(2);
        CHECK.same("readSum ahead", first.readSum(0), 30);
        first.rescale(2);
        CHECK.same("readSum then", first.readSum(0), 0);
    }

    private static void sumOfAllChannels() {
        for (int workers = 1; workers <= 4; workers++) {
            CheckpointedStream x = Streams.ofWorkers(workers);
            for (int partition = 0; partition < 4; partition++) {
                for (int worker = 0; worker < workers; worker++) {
                    Streams.fill(x, partition, Streams.keyOf(workers, worker, 2), 8);
                }
            }
            for (int worker = 0; worker < workers; worker++) {
                CHECK.same("sumInChannels", x.sumInChannels(Streams.keyOf(workers, worker, 2)), 4 * 36);
                CHECK.same("of another key", x.sumInChannels(Streams.keyOf(workers, worker, 1)), 0);
            }
        }
    }

    private static void sumInChannelsOfThatKey() {
        CheckpointedStream x = new CheckpointedStream();
        for (int key = 0; key < 32; key++) {
            x.append(key % 4, key, key + 1);
        }
        for (int key = 0; key < 28; key++) {
            x.read(key % 4);
        }
        for (int key = 0; key < 32; key++) {
            CHECK.same("sumInChannels(" + key + ")", x.sumInChannels(key), key < 28 ? key + 1 : 0);
        }
    }

    private static void barriersHaveNoValue() {
        CheckpointedStream x = new CheckpointedStream();
        Streams.fill(x, 0, 0, 1);
        for (int i = 0; i < 4; i++) {
            Streams.beginAndSend(x);
            x.abandon();
        }
        Streams.beginAndSend(x);
        CHECK.same("sumInChannels(0)", x.sumInChannels(0), 1);
        for (int key = 1; key < 32; key++) {
            CHECK.same("sumInChannels(" + key + ")", x.sumInChannels(key), 0);
        }
    }

    private static void takenIsNotInChannels() {
        CheckpointedStream x = new CheckpointedStream();
        Streams.fill(x, 1, 20, 8);
        int due = 36;
        for (int i = 1; i <= 8; i++) {
            CHECK.same("sumInChannels", x.sumInChannels(20), due);
            x.take(1, 1);
            due -= i;
        }
        CHECK.same("all taken", x.sumInChannels(20), 0);
        CheckpointedStream crashed = Streams.withCheckpointUnderWay();
        CHECK.same("ahead of a crash", crashed.sumInChannels(4), 60);
        crashed.crash();
        CHECK.same("after it", crashed.sumInChannels(4), 0);
    }

    private static void readIsTakenOrInChannels() {
        CheckpointedStream x = new CheckpointedStream();
        for (int i = 0; i < 60; i++) {
            x.append(i % 4, i * 7 % 32, i + 1);
        }
        for (int i = 0; i < 20; i++) {
            int p = i * 3 % 4;
            Check.thrownBy(() -> x.read(p));
            Check.thrownBy(() -> x.read(p));
            int w = i % 2;
            Check.thrownBy(() -> x.take(w, p));
            int key = i * 7 % 32;
            CHECK.same("readSum(" + key + ")", x.readSum(key), x.sum(key) + x.sumInChannels(key));
        }
    }
}
