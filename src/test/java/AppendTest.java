/** Promise 2: append. */
final class AppendTest {
    private static final Check CHECK = new Check("AppendTest");

    public static void main(String[] args) {
        CHECK.sentence("it returns the event's offset, from 0 on", AppendTest::offsetsFromZeroOn);
        CHECK.sentence("each partition has offsets of its own", AppendTest::offsetsOfEachPartition);
        CHECK.sentence("an event has a key 0 to 31 and a value 1 to 100", AppendTest::allKeysAndValues);
        CHECK.sentence("with 59 events one more is appended", AppendTest::theSixtieth);
        CHECK.sentence("with 60 events it is refused", AppendTest::noSixtyFirst);
        CHECK.sentence("a full partition refuses nothing to another", AppendTest::fullPartitionAlone);
        CHECK.sentence("that events are read makes no room", AppendTest::readEventsStay);
        CHECK.sentence("that all starts again makes no room", AppendTest::startingAgainMakesNoRoom);
        CHECK.sentence("it does no more than append", AppendTest::appendsAlone);
        CHECK.sentence("no such partition: IndexOutOfBoundsException", AppendTest::noSuchPartition);
        CHECK.sentence("no such key: IndexOutOfBoundsException", AppendTest::noSuchKey);
        CHECK.sentence("value out of range: IllegalArgumentException", AppendTest::valueOutOfRange);
        CHECK.sentence("no such partition decides ahead of the value", AppendTest::partitionAheadOfValue);
        CHECK.sentence("no such key decides ahead of the value", AppendTest::keyAheadOfValue);
        CHECK.sentence("no such key decides ahead of the 60 events", AppendTest::keyAheadOfFull);
        CHECK.sentence("the value decides ahead of the 60 events", AppendTest::valueAheadOfFull);
        CHECK.finish();
    }

    private static CheckpointedStream withFull(int partition) {
        CheckpointedStream x = new CheckpointedStream();
        Streams.append(x, partition, 3, 7, 60);
        return x;
    }

    private static void offsetsFromZeroOn() {
        CheckpointedStream x = new CheckpointedStream();
        for (int i = 0; i < 60; i++) {
            CHECK.same("append", x.append(2, 5, 1), i);
            CHECK.same("events", x.events(2), i + 1);
        }
    }

    private static void offsetsOfEachPartition() {
        CheckpointedStream x = new CheckpointedStream();
        for (int i = 0; i < 3; i++) {
            for (int partition = 0; partition < 4; partition++) {
                CHECK.same("append to " + partition, x.append(partition, 8 * partition, 10 * i + 1), i);
            }
        }
        for (int partition = 0; partition < 4; partition++) {
            for (int i = 0; i < 3; i++) {
                CHECK.same("eventAt", x.eventAt(partition, i), 8000 * partition + 10 * i + 1);
            }
        }
    }

    private static void allKeysAndValues() {
        for (int key = 0; key < 32; key++) {
            CheckpointedStream x = new CheckpointedStream();
            for (int value = 1; value <= 100; value++) {
                x.append(value % 4, key, value);
                CHECK.same("its event", x.eventAt(value % 4, x.events(value % 4) - 1), 1000 * key + value);
            }
        }
    }

    private static void theSixtieth() {
        for (int partition = 0; partition < 4; partition++) {
            CheckpointedStream x = new CheckpointedStream();
            Streams.append(x, partition, 3, 7, 59);
            CHECK.same("with 59", x.events(partition), 59);
            CHECK.same("append one more", x.append(partition, 31, 100), 59);
            CHECK.same("with 60", x.events(partition), 60);
            CHECK.same("the sixtieth", x.eventAt(partition, 59), 31100);
        }
    }

    private static void noSixtyFirst() {
        for (int partition = 0; partition < 4; partition++) {
            int p = partition;
            CHECK.refused("append to " + p, Check.NOT_NOW, () -> withFull(p), x -> x.append(p, 0, 1));
            CHECK.refused("append the same", Check.NOT_NOW, () -> withFull(p), x -> x.append(p, 3, 7));
        }
    }

    private static void fullPartitionAlone() {
        for (int full = 0; full < 4; full++) {
            CheckpointedStream x = withFull(full);
            for (int partition = 0; partition < 4; partition++) {
                if (partition != full) {
                    CHECK.same("append to " + partition, x.append(partition, 0, 1), 0);
                }
            }
        }
    }

    private static void readEventsStay() {
        Check.Make read = () -> {
            CheckpointedStream x = withFull(1);
            x.pump(20);
            x.pump(20);
            x.pump(20);
            return x;
        };
        CHECK.same("all are read", read.make().offset(1), 60);
        CHECK.refused("append", Check.NOT_NOW, read, x -> x.append(1, 0, 1));
    }

    private static void startingAgainMakesNoRoom() {
        CHECK.refused("append after crash", Check.NOT_NOW, () -> {
            CheckpointedStream x = withFull(1);
            x.pump(5);
            x.crash();
            return x;
        }, x -> x.append(1, 0, 1));
        CHECK.refused("append after rescale", Check.NOT_NOW, () -> {
            CheckpointedStream x = withFull(3);
            x.rescale(4);
            return x;
        }, x -> x.append(3, 0, 1));
    }

    private static void appendsAlone() {
        CheckpointedStream x = Streams.withCheckpointUnderWay();
        CHECK.same("append", x.append(2, 2, 9), 2);
        CHECK.same("append", x.append(1, 4, 9), 2);
        CHECK.same("offset", x.offset(2), 2);
        CHECK.same("the other offset", x.offset(1), 2);
        CHECK.same("queued", x.queued(2, 0), 0);
        CHECK.same("queued to the other", x.queued(1, 1), 2);
        CHECK.same("count", x.count(2), 1);
        CHECK.same("sum", x.sum(2), 70);
        CHECK.same("readSum", x.readSum(2), 70);
        CHECK.same("open", x.open(0), 1);
        CHECK.same("committed", x.committed(), 3);
    }

    private static void noSuchPartition() {
        CHECK.takenFromTo("partition", 0, 3, Check.NO_SUCH, Streams::withCheckpointUnderWay,
                (x, partition) -> x.append(partition, 5, 50));
    }

    private static void noSuchKey() {
        CHECK.takenFromTo("key", 0, 31, Check.NO_SUCH, Streams::withCheckpointUnderWay,
                (x, key) -> x.append(1, key, 50));
    }

    private static void valueOutOfRange() {
        CHECK.takenFromTo("value", 1, 100, Check.OUT_OF_RANGE, Streams::withCheckpointUnderWay,
                (x, value) -> x.append(1, 5, value));
    }

    private static void partitionAheadOfValue() {
        for (int value : new int[] {0, 101}) {
            CHECK.refused("-1 and " + value, Check.NO_SUCH, () -> withFull(0), x -> x.append(-1, 0, value));
            CHECK.refused("4 and " + value, Check.NO_SUCH, () -> withFull(3), x -> x.append(4, 0, value));
        }
    }

    private static void keyAheadOfValue() {
        for (int value : new int[] {0, 101}) {
            CHECK.refused("-1 and " + value, Check.NO_SUCH, CheckpointedStream::new, x -> x.append(0, -1, value));
            CHECK.refused("32 and " + value, Check.NO_SUCH, CheckpointedStream::new, x -> x.append(0, 32, value));
        }
    }

    private static void keyAheadOfFull() {
        CHECK.refused("-1", Check.NO_SUCH, () -> withFull(0), x -> x.append(0, -1, 1));
        CHECK.refused("32", Check.NO_SUCH, () -> withFull(0), x -> x.append(0, 32, 1));
        CHECK.refused("32, and the value 0", Check.NO_SUCH, () -> withFull(0), x -> x.append(0, 32, 0));
    }

    private static void valueAheadOfFull() {
        CHECK.refused("0", Check.OUT_OF_RANGE, () -> withFull(3), x -> x.append(3, 0, 0));
        CHECK.refused("101", Check.OUT_OF_RANGE, () -> withFull(3), x -> x.append(3, 0, 101));
    }
}
