/** Promises 12 to 14: events, offset, eventAt. */
final class PartitionsTest {
    private static final Check CHECK = new Check("PartitionsTest");
    private static final Looks LOOKS = new Looks(CHECK);

    public static void main(String[] args) {
        CHECK.sentence("events: how many a partition has, 0, 59 and 60", PartitionsTest::eventsOfEachSize);
        CHECK.sentence("events: of that partition", PartitionsTest::eventsOfThatPartition);
        CHECK.sentence("events: what is read is counted still", PartitionsTest::eventsThatAreRead);
        CHECK.sentence("events: no such partition", () -> LOOKS.noSuchPartition(CheckpointedStream::events));
        CHECK.sentence("events: changes nothing", () -> LOOKS.changesNothing(x -> x.events(0)));
        CHECK.sentence("offset: at which the reader stands, 0, 59 and 60", PartitionsTest::offsets);
        CHECK.sentence("offset: of that reader", PartitionsTest::offsetOfThatReader);
        CHECK.sentence("offset: no such partition", () -> LOOKS.noSuchPartition(CheckpointedStream::offset));
        CHECK.sentence("offset: changes nothing", () -> LOOKS.changesNothing(x -> x.offset(0)));
        CHECK.sentence("eventAt: 1000 times the key, and the value", PartitionsTest::keyAndValue);
        CHECK.sentence("eventAt: of that partition and offset", PartitionsTest::eventsAtOffsets);
        CHECK.sentence("eventAt: offset 0 or more, less than events()", PartitionsTest::offsetsOfEachSize);
        CHECK.sentence("eventAt: the reader's offset does not matter", PartitionsTest::readOrNot);
        CHECK.sentence("eventAt: no such partition", PartitionsTest::eventAtPartitions);
        CHECK.sentence("eventAt: neither partition nor offset", PartitionsTest::neither);
        CHECK.sentence("eventAt: changes nothing", () -> LOOKS.changesNothing(x -> x.eventAt(0, 1)));
        CHECK.finish();
    }

    private static CheckpointedStream withEvents(int partition, int events) {
        CheckpointedStream x = new CheckpointedStream();
        for (int i = 0; i < events; i++) {
            x.append(partition, i % 32, i + 1);
        }
        return x;
    }

    private static void eventsOfEachSize() {
        for (int partition = 0; partition < 4; partition++) {
            for (int events : new int[] {0, 1, 59, 60}) {
                CHECK.same("events", withEvents(partition, events).events(partition), events);
            }
        }
    }

    private static void eventsOfThatPartition() {
        for (int partition = 0; partition < 4; partition++) {
            CheckpointedStream x = withEvents(partition, 60);
            x.append((partition + 1) % 4, 0, 1);
            for (int i = 1; i < 4; i++) {
                CHECK.same("events", x.events((partition + i) % 4), i == 1 ? 1 : 0);
            }
        }
    }

    private static void eventsThatAreRead() {
        CheckpointedStream x = withEvents(2, 20);
        x.pump(10);
        CHECK.same("events", x.events(2), 20);
        x.crash();
        CHECK.same("events after a crash", x.events(2), 20);
    }

    private static void offsets() {
        for (int partition = 0; partition < 4; partition++) {
            CheckpointedStream x = withEvents(partition, 60);
            for (int i = 0; i <= 60; i++) {
                CHECK.same("offset", x.offset(partition), i);
                x.pump(1);
            }
            CHECK.same("offset at the end", x.offset(partition), 60);
        }
    }

    private static void offsetOfThatReader() {
        CheckpointedStream x = new CheckpointedStream();
        for (int partition = 0; partition < 4; partition++) {
            Streams.fill(x, partition, 0, 2 * partition + 1);
            x.append(partition, 0, 1);
        }
        for (int partition = 0; partition < 4; partition++) {
            CHECK.same("offset(" + partition + ")", x.offset(partition), 2 * partition + 1);
        }
    }

    private static void keyAndValue() {
        CheckpointedStream x = new CheckpointedStream();
        x.append(0, 0, 1);
        x.append(0, 0, 100);
        x.append(0, 31, 1);
        x.append(0, 31, 100);
        x.append(0, 17, 64);
        CHECK.same("least of both", x.eventAt(0, 0), 1);
        CHECK.same("least key, largest value", x.eventAt(0, 1), 100);
        CHECK.same("largest key, least value", x.eventAt(0, 2), 31001);
        CHECK.same("largest of both", x.eventAt(0, 3), 31100);
        CHECK.same("others", x.eventAt(0, 4), 17064);
    }

    private static void eventsAtOffsets() {
        CheckpointedStream x = new CheckpointedStream();
        for (int i = 0; i < 60; i++) {
            x.append(i % 4, i % 32, i + 1);
        }
        for (int i = 0; i < 60; i++) {
            CHECK.same("eventAt", x.eventAt(i % 4, i / 4), 1000 * (i % 32) + i + 1);
        }
    }

    private static void offsetsOfEachSize() {
        for (int events : new int[] {1, 59, 60}) {
            CHECK.takenFromTo("offset of " + events, 0, events - 1, Check.NO_SUCH, () -> withEvents(3, events),
                    (x, offset) -> x.eventAt(3, offset));
        }
        for (int offset : new int[] {-1, 0, 1, 59, 60, Integer.MIN_VALUE, Integer.MAX_VALUE}) {
            CHECK.refused("offset " + offset + " of none", Check.NO_SUCH, () -> withEvents(0, 60),
                    x -> x.eventAt(3, offset));
        }
    }

    private static void readOrNot() {
        CheckpointedStream x = withEvents(1, 6);
        x.pump(3);
        for (int offset = 0; offset < 6; offset++) {
            CHECK.same("eventAt", x.eventAt(1, offset), 1001 * offset + 1);
        }
    }

    private static void eventAtPartitions() {
        CHECK.takenFromTo("partition", 0, 3, Check.NO_SUCH, Streams::withCheckpointUnderWay,
                (x, partition) -> x.eventAt(partition, 0));
    }

    private static void neither() {
        CHECK.refused("4 and 60", Check.NO_SUCH, () -> withEvents(3, 60), x -> x.eventAt(4, 60));
        CHECK.refused("-1 and -1", Check.NO_SUCH, () -> withEvents(3, 60), x -> x.eventAt(-1, -1));
        CHECK.refused("-1 and 60", Check.NO_SUCH, () -> withEvents(0, 60), x -> x.eventAt(-1, 60));
    }
}
