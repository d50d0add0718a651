/** Promise 4: sendBarrier. */
final class SendBarrierTest {
    private static final Check CHECK = new Check("SendBarrierTest");

    public static void main(String[] args) {
        CHECK.sentence("it returns the offset that the reader keeps", SendBarrierTest::returnsTheOffset);
        CHECK.sentence("a barrier goes into each channel of the partition", SendBarrierTest::intoEachChannel);
        CHECK.sentence("none goes into the channels of another partition", SendBarrierTest::notIntoOthers);
        CHECK.sentence("the barrier goes to the end of the channels", SendBarrierTest::toTheEnd);
        CHECK.sentence("the barrier has the number of the checkpoint", SendBarrierTest::hasTheNumber);
        CHECK.sentence("the offset kept is that at which the reader stands then", SendBarrierTest::offsetThen);
        CHECK.sentence("nothing is kept for the latest complete checkpoint yet", SendBarrierTest::notYetComplete);
        CHECK.sentence("the reader stands where it stood", SendBarrierTest::readerStays);
        CHECK.sentence("readers send in any order", SendBarrierTest::inAnyOrder);
        CHECK.sentence("no checkpoint is under way: refused", SendBarrierTest::noneUnderWay);
        CHECK.sentence("the reader has sent its barrier: refused", SendBarrierTest::hasSent);
        CHECK.sentence("for the next checkpoint it sends again", SendBarrierTest::againForTheNext);
        CHECK.sentence("a channel of the partition takes an eighth item", SendBarrierTest::eighthItem);
        CHECK.sentence("one of the channels of the partition has 8 items: refused", SendBarrierTest::eightItems);
        CHECK.sentence("channels of other partitions that have 8 items refuse nothing", SendBarrierTest::otherFull);
        CHECK.sentence("what was refused can be sent when there is room", SendBarrierTest::roomLater);
        CHECK.sentence("blocked channels refuse nothing", SendBarrierTest::blockedChannels);
        CHECK.sentence("no such partition: IndexOutOfBoundsException", SendBarrierTest::noSuchPartition);
        CHECK.sentence("no such partition decides ahead of all else", SendBarrierTest::partitionFirst);
        CHECK.sentence("two reasons to refuse at once: refused", SendBarrierTest::twoReasons);
        CHECK.finish();
    }

    private static CheckpointedStream begun(int workers) {
        CheckpointedStream x = Streams.ofWorkers(workers);
        x.beginCheckpoint();
        return x;
    }

    private static void returnsTheOffset() {
        for (int partition = 0; partition < 4; partition++) {
            for (int offset : new int[] {0, 1, 59, 60}) {
                CheckpointedStream x = new CheckpointedStream();
                Streams.append(x, partition, 0, 1, 60);
                for (int i = 0; i < offset; i++) {
                    x.pump(1);
                }
                x.beginCheckpoint();
                CHECK.same("sendBarrier(" + partition + ")", x.sendBarrier(partition), offset);
            }
        }
    }

    private static void intoEachChannel() {
        for (int workers = 1; workers <= 4; workers++) {
            for (int partition = 0; partition < 4; partition++) {
                CheckpointedStream x = begun(workers);
                x.sendBarrier(partition);
                for (int worker = 0; worker < workers; worker++) {
                    CHECK.same("queued", x.queued(partition, worker), 1);
                    CHECK.same("itemAt", x.itemAt(partition, worker, 0), -1);
                }
            }
        }
    }

    private static void notIntoOthers() {
        for (int partition = 0; partition < 4; partition++) {
            CheckpointedStream x = begun(4);
            x.sendBarrier(partition);
            for (int other = 0; other < 4; other++) {
                CHECK.same("hasSent(" + other + ")", x.hasSent(other) ? 1 : 0, other == partition ? 1 : 0);
                for (int worker = 0; worker < 4; worker++) {
                    CHECK.same("queued", x.queued(other, worker), other == partition ? 1 : 0);
                }
            }
        }
    }

    private static void toTheEnd() {
        CheckpointedStream x = Streams.ofWorkers(3);
        Streams.fill(x, 2, 0, 3);
        Streams.fill(x, 2, 6, 1);
        x.beginCheckpoint();
        x.sendBarrier(2);
        CHECK.same("behind three", x.itemAt(2, 0, 3), -1);
        CHECK.same("the last of three", x.itemAt(2, 0, 2), 3);
        CHECK.same("behind none", x.itemAt(2, 1, 0), -1);
        CHECK.same("behind one", x.itemAt(2, 2, 1), -1);
        CHECK.same("the one", x.itemAt(2, 2, 0), 6001);
    }

    private static void hasTheNumber() {
        CheckpointedStream x = new CheckpointedStream();
        for (int number = 1; number <= 7; number++) {
            x.beginCheckpoint();
            x.sendBarrier(1);
            CHECK.same("itemAt", x.itemAt(1, 0, number - 1), -number);
            x.abandon();
        }
        CheckpointedStream y = Streams.withCommittedCheckpoint();
        y.beginCheckpoint();
        y.sendBarrier(3);
        CHECK.same("after a complete one", y.itemAt(3, 1, 0), -2);
    }

    private static void offsetThen() {
        CheckpointedStream x = new CheckpointedStream();
        for (int partition = 0; partition < 4; partition++) {
            Streams.append(x, partition, 0, 1, 5);
        }
        x.beginCheckpoint();
        x.pump(1);
        x.sendBarrier(0);
        x.pump(1);
        x.sendBarrier(1);
        x.pump(1);
        x.sendBarrier(2);
        x.pump(1);
        x.sendBarrier(3);
        x.pump(2);
        CHECK.same("complete", x.complete(), 1);
        for (int partition = 0; partition < 4; partition++) {
            CHECK.same("all is read", x.offset(partition), 5);
            CHECK.same("keptOffset(" + partition + ")", x.keptOffset(partition), partition + 1);
        }
    }

    private static void notYetComplete() {
        CheckpointedStream x = Streams.withCommittedCheckpoint();
        Streams.fill(x, 0, 0, 3);
        x.beginCheckpoint();
        CHECK.same("sendBarrier", x.sendBarrier(0), 4);
        CHECK.same("keptOffset", x.keptOffset(0), 1);
        CHECK.same("crash", x.crash(), 1);
        CHECK.same("offset", x.offset(0), 1);
    }

    private static void readerStays() {
        CheckpointedStream x = new CheckpointedStream();
        Streams.fill(x, 1, 0, 2);
        x.append(1, 0, 77);
        x.beginCheckpoint();
        x.sendBarrier(1);
        CHECK.same("offset", x.offset(1), 2);
        x.read(1);
        CHECK.same("the event behind", x.itemAt(1, 0, 3), 77);
    }

    private static void inAnyOrder() {
        for (int first = 0; first < 4; first++) {
            CheckpointedStream x = begun(2);
            for (int i = 0; i < 4; i++) {
                CHECK.no("hasSent ahead", x.hasSent((first + 3 * i) % 4));
                CHECK.same("sendBarrier", x.sendBarrier((first + 3 * i) % 4), 0);
                CHECK.yes("hasSent then", x.hasSent((first + 3 * i) % 4));
            }
            x.pump(1);
            CHECK.same("complete", x.complete(), 1);
        }
    }

    private static void noneUnderWay() {
        for (int partition = 0; partition < 4; partition++) {
            int p = partition;
            Check.Use send = x -> x.sendBarrier(p);
            CHECK.refused("new", Check.NOT_NOW, CheckpointedStream::new, send);
            CHECK.refused("complete", Check.NOT_NOW, Streams::withCompleteCheckpoint, send);
            CHECK.refused("committed", Check.NOT_NOW, Streams::withCommittedCheckpoint, send);
            CHECK.refused("abandoned", Check.NOT_NOW, () -> {
                CheckpointedStream x = begun(2);
                x.abandon();
                return x;
            }, send);
            CHECK.refused("crashed", Check.NOT_NOW, () -> {
                CheckpointedStream x = Streams.withCheckpointUnderWay();
                x.crash();
                return x;
            }, send);
            CHECK.refused("rescaled", Check.NOT_NOW, () -> {
                CheckpointedStream x = begun(2);
                x.rescale(3);
                return x;
            }, send);
        }
    }

    private static void hasSent() {
        for (int partition = 0; partition < 4; partition++) {
            int p = partition;
            Check.Make sent = () -> {
                CheckpointedStream x = begun(2);
                Streams.fill(x, p, 0, 2);
                x.sendBarrier(p);
                x.append(p, 0, 1);
                x.read(p);
                return x;
            };
            CHECK.refused("just sent", Check.NOT_NOW, sent, x -> x.sendBarrier(p));
            CHECK.refused("sent and taken", Check.NOT_NOW, () -> {
                CheckpointedStream x = sent.make();
                x.pump(5);
                return x;
            }, x -> x.sendBarrier(p));
        }
        CHECK.refused("a worker has sealed", Check.NOT_NOW, Streams::withCheckpointUnderWay, x -> x.sendBarrier(1));
    }

    private static void againForTheNext() {
        CheckpointedStream x = begun(2);
        Streams.sendAllBarriers(x);
        x.abandon();
        x.beginCheckpoint();
        for (int partition = 0; partition < 4; partition++) {
            CHECK.same("sendBarrier(" + partition + ") after abandon", x.sendBarrier(partition), 0);
        }
        CheckpointedStream complete = Streams.withCommittedCheckpoint();
        complete.beginCheckpoint();
        CHECK.same("sendBarrier(0) after complete", complete.sendBarrier(0), 1);
        CHECK.same("sendBarrier(3) after complete", complete.sendBarrier(3), 0);
        complete.crash();
        complete.beginCheckpoint();
        CHECK.same("sendBarrier(0) after crash", complete.sendBarrier(0), 1);
        complete.rescale(1);
        complete.beginCheckpoint();
        CHECK.same("sendBarrier(0) after rescale", complete.sendBarrier(0), 1);
    }

    private static CheckpointedStream withItems(int workers, int worker, int partition, int items) {
        CheckpointedStream x = begun(workers);
        Streams.fill(x, partition, Streams.keyOf(workers, worker, 2), items);
        return x;
    }

    private static void eighthItem() {
        for (int workers = 1; workers <= 4; workers++) {
            for (int worker = 0; worker < workers; worker++) {
                for (int partition = 0; partition < 4; partition++) {
                    CheckpointedStream x = withItems(workers, worker, partition, 7);
                    CHECK.same("sendBarrier with 7 items", x.sendBarrier(partition), 7);
                    CHECK.same("queued", x.queued(partition, worker), 8);
                    CHECK.same("the eighth", x.itemAt(partition, worker, 7), -1);
                }
            }
        }
    }

    private static void eightItems() {
        for (int workers = 1; workers <= 4; workers++) {
            for (int worker = 0; worker < workers; worker++) {
                for (int partition = 0; partition < 4; partition++) {
                    refusesBehindEight(workers, worker, partition);
                }
            }
        }
    }

    private static void refusesBehindEight(int workers, int worker, int partition) {
        CHECK.refused("sendBarrier of " + partition + ", worker " + worker + " of " + workers, Check.NOT_NOW,
                () -> withItems(workers, worker, partition, 8), x -> x.sendBarrier(partition));
    }

    private static void otherFull() {
        for (int partition = 0; partition < 4; partition++) {
            CheckpointedStream x = begun(2);
            for (int other = 0; other < 4; other++) {
                if (other != partition) {
                    Streams.fill(x, other, 0, 8);
                    Streams.fill(x, other, 4, 8);
                }
            }
            CHECK.same("sendBarrier(" + partition + ")", x.sendBarrier(partition), 0);
        }
    }

    private static void roomLater() {
        CheckpointedStream x = withItems(4, 3, 2, 8);
        CHECK.throwsIt("sendBarrier", Check.NOT_NOW, () -> x.sendBarrier(2));
        CHECK.no("hasSent", x.hasSent(2));
        x.take(3, 2);
        CHECK.same("sendBarrier then", x.sendBarrier(2), 8);
        CHECK.yes("hasSent then", x.hasSent(2));
        CHECK.same("queued of worker 0", x.queued(2, 0), 1);
    }

    private static void blockedChannels() {
        CheckpointedStream x = begun(2);
        x.sendBarrier(0);
        x.take(0, 0);
        x.take(1, 0);
        CHECK.same("sendBarrier", x.sendBarrier(1), 0);
        x.abandon();
        x.beginCheckpoint();
        CHECK.same("sendBarrier of the next", x.sendBarrier(0), 0);
    }

    private static void noSuchPartition() {
        CHECK.takenFromTo("partition", 0, 3, Check.NO_SUCH, () -> begun(3), CheckpointedStream::sendBarrier);
    }

    private static void partitionFirst() {
        for (int partition : new int[] {-1, 4}) {
            CHECK.refused("none under way", Check.NO_SUCH, CheckpointedStream::new, x -> x.sendBarrier(partition));
            CHECK.refused("all have sent", Check.NO_SUCH, Streams::withCheckpointUnderWay,
                    x -> x.sendBarrier(partition));
            CHECK.refused("full channels", Check.NO_SUCH, () -> withItems(1, 0, 3, 8),
                    x -> x.sendBarrier(partition));
        }
    }

    private static void twoReasons() {
        CHECK.refused("none under way, and 8 items", Check.NOT_NOW, () -> {
            CheckpointedStream x = new CheckpointedStream();
            Streams.fill(x, 0, 0, 8);
            return x;
        }, x -> x.sendBarrier(0));
        CHECK.refused("sent, and 8 items", Check.NOT_NOW, () -> {
            CheckpointedStream x = withItems(2, 0, 0, 7);
            x.sendBarrier(0);
            return x;
        }, x -> x.sendBarrier(0));
    }
}
