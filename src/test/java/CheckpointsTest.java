/** Promises 25 to 29: underWay, complete, hasSent, keptOffset, keptSum. */
final class CheckpointsTest {
    private static final Check CHECK = new Check("CheckpointsTest");
    private static final Looks LOOKS = new Looks(CHECK);

    public static void main(String[] args) {
        CHECK.sentence("underWay: the number of the checkpoint", CheckpointsTest::numberUnderWay);
        CHECK.sentence("underWay: NONE if there is none", CheckpointsTest::noneUnderWay);
        CHECK.sentence("underWay: changes nothing", () -> LOOKS.changesNothing(CheckpointedStream::underWay));
        CHECK.sentence("complete: the number of the latest", CheckpointsTest::latestComplete);
        CHECK.sentence("complete: NONE if there is none", CheckpointsTest::noneComplete);
        CHECK.sentence("complete: changes nothing", () -> LOOKS.changesNothing(CheckpointedStream::complete));
        CHECK.sentence("hasSent: of that reader, for the one under way", CheckpointsTest::sentByThatReader);
        CHECK.sentence("hasSent: false if none is under way", CheckpointsTest::sentForNone);
        CHECK.sentence("hasSent: no such partition", () -> LOOKS.noSuchPartition(CheckpointedStream::hasSent));
        CHECK.sentence("hasSent: changes nothing", () -> LOOKS.changesNothing(x -> x.hasSent(0)));
        CHECK.sentence("keptOffset: of that reader, for the latest complete one", CheckpointsTest::offsetKept);
        CHECK.sentence("keptOffset: 0 if none is complete", CheckpointsTest::noOffsetKept);
        CHECK.sentence("keptOffset: not that of one under way", CheckpointsTest::offsetUnderWay);
        CHECK.sentence("keptOffset: no such partition", () -> LOOKS.noSuchPartition(CheckpointedStream::keptOffset));
        CHECK.sentence("keptOffset: changes nothing", () -> LOOKS.changesNothing(x -> x.keptOffset(0)));
        CHECK.sentence("keptSum: of that key, for the latest complete one", CheckpointsTest::sumKept);
        CHECK.sentence("keptSum: 0 if none is complete", CheckpointsTest::noSumKept);
        CHECK.sentence("keptSum: not that of one under way", CheckpointsTest::sumUnderWay);
        CHECK.sentence("keptSum: no such key", () -> LOOKS.noSuchKey(CheckpointedStream::keptSum));
        CHECK.sentence("keptSum: changes nothing", () -> LOOKS.changesNothing(x -> x.keptSum(1)));
        CHECK.finish();
    }

    private static void numberUnderWay() {
        CheckpointedStream x = new CheckpointedStream();
        for (int number = 1; number <= 6; number++) {
            x.beginCheckpoint();
            CHECK.same("underWay", x.underWay(), number);
            Streams.sendAllBarriers(x);
            CHECK.same("underWay with barriers sent", x.underWay(), number);
            x.crash();
        }
        CHECK.same("with an older complete one", Streams.withCheckpointUnderWay().underWay(), 2);
    }

    private static void noneUnderWay() {
        CheckpointedStream x = new CheckpointedStream();
        CHECK.same("new", x.underWay(), CheckpointedStream.NONE);
        x.beginCheckpoint();
        x.abandon();
        CHECK.same("abandoned", x.underWay(), CheckpointedStream.NONE);
        Streams.completeCheckpoint(x);
        CHECK.same("complete", x.underWay(), CheckpointedStream.NONE);
        Streams.commitAll(x);
        CHECK.same("committed", x.underWay(), CheckpointedStream.NONE);
        x.beginCheckpoint();
        x.crash();
        CHECK.same("crashed", x.underWay(), CheckpointedStream.NONE);
        x.beginCheckpoint();
        x.rescale(2);
        CHECK.same("rescaled", x.underWay(), CheckpointedStream.NONE);
    }

    private static void latestComplete() {
        CheckpointedStream x = new CheckpointedStream();
        for (int number = 2; number <= 6; number += 2) {
            x.beginCheckpoint();
            x.abandon();
            Streams.completeCheckpoint(x);
            CHECK.same("complete", x.complete(), number);
            Streams.commitAll(x);
            CHECK.same("complete when committed", x.complete(), number);
        }
        x.beginCheckpoint();
        CHECK.same("another under way", x.complete(), 6);
        x.abandon();
        CHECK.same("another abandoned", x.complete(), 6);
        x.crash();
        CHECK.same("crashed", x.complete(), 6);
        x.rescale(3);
        CHECK.same("rescaled", x.complete(), 6);
    }

    private static void noneComplete() {
        CheckpointedStream x = Streams.withEventsTaken(2);
        CHECK.same("none begun", x.complete(), CheckpointedStream.NONE);
        Streams.beginAndSend(x);
        Streams.takeFromAll(x, 0);
        CHECK.same("under way", x.complete(), CheckpointedStream.NONE);
        x.abandon();
        CHECK.same("abandoned", x.complete(), CheckpointedStream.NONE);
        x.beginCheckpoint();
        x.crash();
        CHECK.same("crashed", x.complete(), CheckpointedStream.NONE);
        x.rescale(4);
        CHECK.same("rescaled", x.complete(), CheckpointedStream.NONE);
    }

    private static void sentByThatReader() {
        for (int sending = 0; sending < 4; sending++) {
            CheckpointedStream x = Streams.withCommittedCheckpoint();
            x.beginCheckpoint();
            x.sendBarrier(sending);
            for (int partition = 0; partition < 4; partition++) {
                CHECK.same("hasSent", x.hasSent(partition) ? 1 : 0, partition == sending ? 1 : 0);
            }
            x.pump(3);
            CHECK.yes("its barriers are taken", x.hasSent(sending));
        }
    }

    private static void sentForNone() {
        CheckpointedStream x = new CheckpointedStream();
        CheckpointedStream complete = Streams.withCompleteCheckpoint();
        CheckpointedStream abandoned = Streams.withCheckpointUnderWay();
        abandoned.abandon();
        CheckpointedStream crashed = Streams.withCheckpointUnderWay();
        crashed.crash();
        CheckpointedStream rescaled = Streams.withCheckpointUnderWay();
        rescaled.rescale(3);
        for (int partition = 0; partition < 4; partition++) {
            CHECK.no("new", x.hasSent(partition));
            CHECK.no("complete", complete.hasSent(partition));
            CHECK.no("abandoned", abandoned.hasSent(partition));
            CHECK.no("crashed", crashed.hasSent(partition));
            CHECK.no("rescaled", rescaled.hasSent(partition));
        }
    }

    private static void offsetKept() {
        CheckpointedStream x = new CheckpointedStream();
        for (int partition = 0; partition < 4; partition++) {
            Streams.append(x, partition, 0, 1, 60);
        }
        for (int round = 1; round <= 3; round++) {
            for (int partition = 0; partition < 4; partition++) {
                for (int i = 0; i <= partition; i++) {
                    x.read(partition);
                    x.take(0, partition);
                }
            }
            Streams.completeCheckpoint(x);
            Streams.commitAll(x);
            x.read(0);
            for (int partition = 0; partition < 4; partition++) {
                CHECK.same("keptOffset", x.keptOffset(partition), round * (partition + 1));
            }
            x.crash();
        }
        x.pump(20);
        x.pump(20);
        x.pump(20);
        Streams.completeCheckpoint(x);
        CHECK.same("the largest", x.keptOffset(3), 60);
    }

    private static void noOffsetKept() {
        CheckpointedStream x = Streams.withEventsTaken(4);
        Streams.beginAndSend(x);
        for (int partition = 0; partition < 4; partition++) {
            CHECK.same("under way", x.keptOffset(partition), 0);
        }
        x.abandon();
        for (int partition = 0; partition < 4; partition++) {
            CHECK.same("abandoned", x.keptOffset(partition), 0);
        }
    }

    private static void offsetUnderWay() {
        CheckpointedStream x = Streams.withCheckpointUnderWay();
        CHECK.same("under way", x.keptOffset(0), 1);
        CHECK.same("under way", x.keptOffset(1), 1);
        x.pump(20);
        CHECK.same("complete", x.complete(), 2);
        CHECK.same("complete", x.keptOffset(0), 2);
        CHECK.same("complete", x.keptOffset(1), 2);
        CHECK.same("complete", x.keptOffset(2), 1);
        CHECK.same("complete", x.keptOffset(3), 0);
    }

    private static void sumKept() {
        for (int workers = 1; workers <= 4; workers++) {
            CheckpointedStream x = Streams.ofWorkers(workers);
            for (int key = 0; key < 32; key++) {
                x.append(key % 4, key, 100 - key);
            }
            x.pump(20);
            Streams.completeCheckpoint(x);
            Streams.commitAll(x);
            x.append(0, 5, 100);
            x.append(1, 0, 100);
            x.pump(1);
            for (int key = 0; key < 32; key++) {
                CHECK.same("keptSum(" + key + ")", x.keptSum(key), 100 - key);
            }
            Streams.completeCheckpoint(x);
            CHECK.same("keptSum(5) of the next", x.keptSum(5), 195);
            CHECK.same("keptSum(0) of the next", x.keptSum(0), 200);
            CHECK.same("keptSum(1) of the next", x.keptSum(1), 99);
        }
    }

    private static void noSumKept() {
        CheckpointedStream x = Streams.withEventsTaken(2);
        Streams.beginAndSend(x);
        Streams.takeFromAll(x, 0);
        CHECK.same("under way", x.keptSum(0), 0);
        x.abandon();
        CHECK.same("abandoned", x.keptSum(0), 0);
        CHECK.same("abandoned", x.keptSum(4), 0);
    }

    private static void sumUnderWay() {
        CheckpointedStream x = Streams.withCheckpointUnderWay();
        CHECK.same("under way", x.keptSum(1), 30);
        CHECK.same("under way", x.keptSum(4), 7);
        x.pump(20);
        CHECK.same("complete", x.keptSum(1), 80);
        CHECK.same("complete", x.keptSum(4), 67);
        CHECK.same("behind its barrier", x.keptSum(2), 0);
        CHECK.same("behind its barrier", x.keptSum(7), 0);
    }
}
