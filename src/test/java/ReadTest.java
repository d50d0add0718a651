/** Promise 3: read. */
final class ReadTest {
    private static final Check CHECK = new Check("ReadTest");

    public static void main(String[] args) {
        CHECK.sentence("it returns the worker to which the event goes", ReadTest::returnsTheWorker);
        CHECK.sentence("the event at the offset goes to the channel to the worker of its key", ReadTest::toItsChannel);
        CHECK.sentence("the event goes to the end of the channel, behind events", ReadTest::behindEvents);
        CHECK.sentence("the event goes to the end of the channel, behind a barrier", ReadTest::behindABarrier);
        CHECK.sentence("the offset becomes 1 more", ReadTest::offsetOneMore);
        CHECK.sentence("a partition with no event: refused", ReadTest::noEvent);
        CHECK.sentence("with 59 or 60 events the last one is read, and none behind it", ReadTest::lastEvent);
        CHECK.sentence("an event that is appended at the offset can be read then", ReadTest::appendedLater);
        CHECK.sentence("the channel takes an eighth item", ReadTest::eighthItem);
        CHECK.sentence("the channel has 8 events: refused", ReadTest::eightEvents);
        CHECK.sentence("the channel has 8 items, one a barrier: refused", ReadTest::sevenEventsAndABarrier);
        CHECK.sentence("the channel has 8 barriers: refused", ReadTest::eightBarriers);
        CHECK.sentence("another channel that has 8 items refuses nothing", ReadTest::otherFullChannel);
        CHECK.sentence("the event at the offset decides, not one behind it", ReadTest::onlyTheNextEvent);
        CHECK.sentence("a blocked channel refuses nothing", ReadTest::blockedChannel);
        CHECK.sentence("a take makes room", ReadTest::takeMakesRoom);
        CHECK.sentence("it does no more than read", ReadTest::readsAlone);
        CHECK.sentence("no such partition: IndexOutOfBoundsException", ReadTest::noSuchPartition);
        CHECK.finish();
    }

    private static void returnsTheWorker() {
        int[][] ownerOfGroup = {
            {0, 0, 0, 0, 0, 0, 0, 0},
            {0, 0, 0, 0, 1, 1, 1, 1},
            {0, 0, 0, 1, 1, 1, 2, 2},
            {0, 0, 1, 1, 2, 2, 3, 3},
        };
        for (int workers = 1; workers <= 4; workers++) {
            for (int key = 0; key < 32; key++) {
                CheckpointedStream x = Streams.ofWorkers(workers);
                x.append(1, key, 1);
                CHECK.same("key " + key + " of " + workers, x.read(1), ownerOfGroup[workers - 1][key % 8]);
            }
        }
    }

    private static void toItsChannel() {
        for (int workers = 1; workers <= 4; workers++) {
            for (int owner = 0; owner < workers; owner++) {
                CheckpointedStream x = Streams.ofWorkers(workers);
                x.append(2, Streams.keyOf(workers, owner, 3), 9);
                x.read(2);
                for (int partition = 0; partition < 4; partition++) {
                    for (int worker = 0; worker < workers; worker++) {
                        int due = partition == 2 && worker == owner ? 1 : 0;
                        CHECK.same("queued", x.queued(partition, worker), due);
                    }
                }
                CHECK.same("the item", x.itemAt(2, owner, 0), 1000 * Streams.keyOf(workers, owner, 3) + 9);
            }
        }
    }

    private static void behindEvents() {
        CheckpointedStream x = new CheckpointedStream();
        for (int i = 0; i < 8; i++) {
            x.append(0, 8 * (i % 4), i + 1);
        }
        for (int i = 0; i < 8; i++) {
            x.read(0);
            for (int place = 0; place <= i; place++) {
                CHECK.same("itemAt " + place, x.itemAt(0, 0, place), 8000 * (place % 4) + place + 1);
            }
        }
    }

    private static void behindABarrier() {
        CheckpointedStream x = new CheckpointedStream();
        x.append(0, 0, 1);
        x.append(0, 0, 2);
        x.read(0);
        x.beginCheckpoint();
        x.sendBarrier(0);
        x.read(0);
        CHECK.same("first", x.itemAt(0, 0, 0), 1);
        CHECK.same("then the barrier", x.itemAt(0, 0, 1), -1);
        CHECK.same("then the event", x.itemAt(0, 0, 2), 2);
    }

    private static void offsetOneMore() {
        for (int partition = 0; partition < 4; partition++) {
            CheckpointedStream x = new CheckpointedStream();
            for (int other = 0; other < 4; other++) {
                Streams.append(x, other, 0, 1, 3);
            }
            for (int i = 1; i <= 3; i++) {
                x.read(partition);
                for (int other = 0; other < 4; other++) {
                    CHECK.same("offset(" + other + ")", x.offset(other), other == partition ? i : 0);
                }
            }
        }
    }

    private static void noEvent() {
        for (int partition = 0; partition < 4; partition++) {
            int p = partition;
            CHECK.refused("read " + p, Check.NOT_NOW, CheckpointedStream::new, x -> x.read(p));
            CHECK.refused("read with events elsewhere " + p, Check.NOT_NOW, () -> {
                CheckpointedStream x = new CheckpointedStream();
                x.append((p + 1) % 4, 0, 1);
                x.append((p + 2) % 4, 0, 1);
                return x;
            }, x -> x.read(p));
        }
    }

    /** All events but the last one are read. */
    private static CheckpointedStream upToTheLast(int partition, int events) {
        CheckpointedStream x = new CheckpointedStream();
        Streams.append(x, partition, 4, 2, events);
        for (int left = events - 1; left > 0; left -= 20) {
            x.pump(Math.min(left, 20));
        }
        return x;
    }

    private static void lastEvent() {
        for (int partition = 0; partition < 4; partition++) {
            for (int events : new int[] {1, 59, 60}) {
                int p = partition;
                CheckpointedStream x = upToTheLast(p, events);
                CHECK.same("offset", x.offset(p), events - 1);
                CHECK.same("read the last", x.read(p), 1);
                CHECK.same("offset then", x.offset(p), events);
                CHECK.refused("read behind " + events, Check.NOT_NOW, () -> {
                    CheckpointedStream y = upToTheLast(p, events);
                    y.read(p);
                    return y;
                }, y -> y.read(p));
            }
        }
    }

    private static void appendedLater() {
        CheckpointedStream x = new CheckpointedStream();
        x.append(3, 0, 1);
        x.read(3);
        CHECK.throwsIt("read", Check.NOT_NOW, () -> x.read(3));
        x.append(3, 4, 1);
        CHECK.same("read then", x.read(3), 1);
    }

    private static void eighthItem() {
        for (int workers = 1; workers <= 4; workers++) {
            for (int worker = 0; worker < workers; worker++) {
                for (int partition = 0; partition < 4; partition++) {
                    CheckpointedStream x = Streams.ofWorkers(workers);
                    int key = Streams.keyOf(workers, worker, 1);
                    Streams.fill(x, partition, key, 7);
                    x.append(partition, key, 100);
                    CHECK.same("read with 7 items", x.read(partition), worker);
                    CHECK.same("queued", x.queued(partition, worker), 8);
                    CHECK.same("the eighth", x.itemAt(partition, worker, 7), 1000 * key + 100);
                }
            }
        }
    }

    private static void eightEvents() {
        for (int workers = 1; workers <= 4; workers++) {
            for (int worker = 0; worker < workers; worker++) {
                for (int partition = 0; partition < 4; partition++) {
                    refusesBehindEight(workers, worker, partition);
                }
            }
        }
    }

    private static void refusesBehindEight(int workers, int worker, int partition) {
        CHECK.refused("read of " + partition + " to " + worker + " of " + workers, Check.NOT_NOW, () -> {
            CheckpointedStream x = Streams.ofWorkers(workers);
            Streams.fill(x, partition, Streams.keyOf(workers, worker, 1), 8);
            x.append(partition, Streams.keyOf(workers, worker, 2), 100);
            return x;
        }, x -> x.read(partition));
    }

    private static void sevenEventsAndABarrier() {
        CHECK.refused("read", Check.NOT_NOW, () -> {
            CheckpointedStream x = new CheckpointedStream();
            Streams.fill(x, 0, 5, 7);
            x.beginCheckpoint();
            x.sendBarrier(0);
            x.append(0, 5, 1);
            return x;
        }, x -> x.read(0));
    }

    private static void eightBarriers() {
        Check.Make full = () -> {
            CheckpointedStream x = new CheckpointedStream();
            for (int i = 0; i < 8; i++) {
                x.beginCheckpoint();
                x.sendBarrier(0);
                x.abandon();
            }
            x.append(0, 5, 1);
            return x;
        };
        CHECK.same("the last barrier", full.make().itemAt(0, 1, 7), -8);
        CHECK.refused("read", Check.NOT_NOW, full, x -> x.read(0));
        CheckpointedStream x = full.make();
        x.take(1, 0);
        CHECK.same("read then", x.read(0), 1);
    }

    private static void otherFullChannel() {
        CheckpointedStream x = Streams.ofWorkers(4);
        for (int worker = 0; worker < 3; worker++) {
            Streams.fill(x, 1, Streams.keyOf(4, worker, 0), 8);
        }
        Streams.fill(x, 0, 6, 8);
        Streams.fill(x, 2, 6, 8);
        x.append(1, 6, 1);
        CHECK.same("read", x.read(1), 3);
        CHECK.same("queued", x.queued(1, 3), 1);
    }

    private static void onlyTheNextEvent() {
        CHECK.refused("read", Check.NOT_NOW, () -> {
            CheckpointedStream x = new CheckpointedStream();
            Streams.fill(x, 0, 0, 8);
            x.append(0, 0, 1);
            x.append(0, 4, 1);
            return x;
        }, x -> x.read(0));
    }

    private static void blockedChannel() {
        CheckpointedStream x = new CheckpointedStream();
        x.beginCheckpoint();
        x.sendBarrier(0);
        x.take(0, 0);
        CHECK.yes("blocked", x.isBlocked(0, 0));
        x.append(0, 0, 1);
        CHECK.same("read", x.read(0), 0);
        CHECK.same("queued", x.queued(0, 0), 1);
    }

    private static void takeMakesRoom() {
        CheckpointedStream x = new CheckpointedStream();
        Streams.fill(x, 0, 0, 8);
        x.append(0, 0, 50);
        CHECK.throwsIt("read", Check.NOT_NOW, () -> x.read(0));
        x.take(0, 0);
        CHECK.same("read then", x.read(0), 0);
        CHECK.same("queued", x.queued(0, 0), 8);
        CHECK.same("its last item", x.itemAt(0, 0, 7), 50);
        CHECK.same("its first item", x.itemAt(0, 0, 0), 2);
    }

    private static void readsAlone() {
        CheckpointedStream x = Streams.withCheckpointUnderWay();
        CHECK.same("read", x.read(0), 0);
        CHECK.same("events", x.events(0), 3);
        CHECK.same("eventAt", x.eventAt(0, 2), 1033);
        CHECK.same("count", x.count(1), 3);
        CHECK.same("open", x.open(0), 1);
        CHECK.same("sealed", x.sealed(0), 2);
        CHECK.same("underWay", x.underWay(), 2);
        CHECK.yes("hasSent", x.hasSent(0));
        CHECK.same("keptOffset", x.keptOffset(0), 1);
        CHECK.same("committed", x.committed(), 3);
    }

    private static void noSuchPartition() {
        CHECK.takenFromTo("partition", 0, 3, Check.NO_SUCH, () -> {
            CheckpointedStream x = Streams.withCheckpointUnderWay();
            x.append(1, 4, 1);
            x.append(2, 4, 1);
            return x;
        }, CheckpointedStream::read);
    }
}
