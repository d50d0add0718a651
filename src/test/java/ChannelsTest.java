/** Promises 15 to 17: queued, itemAt, isBlocked. */
final class ChannelsTest {
    private static final Check CHECK = new Check("ChannelsTest");
    private static final Looks LOOKS = new Looks(CHECK);

    private interface Look {
        void at(CheckpointedStream x, int partition, int worker);
    }

    public static void main(String[] args) {
        CHECK.sentence("queued: how many items, 0 to 8", ChannelsTest::queuedOfEachSize);
        CHECK.sentence("queued: of that channel", ChannelsTest::queuedOfThatChannel);
        CHECK.sentence("queued: barriers are items, abandoned ones too", ChannelsTest::queuedBarriers);
        CHECK.sentence("queued: no such partition or worker", () -> noSuch(CheckpointedStream::queued));
        CHECK.sentence("queued: changes nothing", () -> LOOKS.changesNothing(x -> x.queued(1, 1)));
        CHECK.sentence("itemAt: 1000 times the key and the value of an event", ChannelsTest::itemIsAnEvent);
        CHECK.sentence("itemAt: 0 less the number of the checkpoint for a barrier", ChannelsTest::itemIsABarrier);
        CHECK.sentence("itemAt: place 0 is the first one", ChannelsTest::placesFromTheFirst);
        CHECK.sentence("itemAt: of that channel", ChannelsTest::itemsOfThatChannel);
        CHECK.sentence("itemAt: no such place, of 0, 1, 7 and 8 items", ChannelsTest::noSuchPlace);
        CHECK.sentence("itemAt: no such partition or worker", () -> noSuch((x, p, w) -> x.itemAt(p, w, 0)));
        CHECK.sentence("itemAt: nothing of them", ChannelsTest::noneOfThem);
        CHECK.sentence("itemAt: changes nothing", () -> LOOKS.changesNothing(x -> x.itemAt(1, 1, 0)));
        CHECK.sentence("isBlocked: that channel, behind its barrier", ChannelsTest::blockedBehindItsBarrier);
        CHECK.sentence("isBlocked: not ahead of its barrier", ChannelsTest::notBlockedAhead);
        CHECK.sentence("isBlocked: no more when it is complete, abandoned or lost", ChannelsTest::blockedNoMore);
        CHECK.sentence("isBlocked: no such partition or worker", () -> noSuch(CheckpointedStream::isBlocked));
        CHECK.sentence("isBlocked: changes nothing", () -> LOOKS.changesNothing(x -> x.isBlocked(0, 1)));
        CHECK.finish();
    }

    /** Each channel has an item: a barrier. */
    private static CheckpointedStream withBarriers(int workers) {
        CheckpointedStream x = Streams.ofWorkers(workers);
        Streams.beginAndSend(x);
        return x;
    }

    private static void noSuch(Look look) {
        for (int workers = 1; workers <= 4; workers++) {
            int n = workers;
            CHECK.takenFromTo("partition", 0, 3, Check.NO_SUCH, () -> withBarriers(n),
                    (x, partition) -> look.at(x, partition, n - 1));
            CHECK.takenFromTo("worker of " + n, 0, n - 1, Check.NO_SUCH, () -> withBarriers(n),
                    (x, worker) -> look.at(x, 3, worker));
            CHECK.refused("neither", Check.NO_SUCH, () -> withBarriers(n), x -> look.at(x, 4, n));
            CHECK.refused("neither", Check.NO_SUCH, () -> withBarriers(n), x -> look.at(x, -1, -1));
            CHECK.refused("a worker that is gone", Check.NO_SUCH, () -> {
                CheckpointedStream x = withBarriers(4);
                x.rescale(n);
                return x;
            }, x -> look.at(x, 0, n));
        }
    }

    private static CheckpointedStream withItems(int partition, int worker, int items) {
        CheckpointedStream x = Streams.ofWorkers(4);
        Streams.fill(x, partition, Streams.keyOf(4, worker, 1), items);
        return x;
    }

    private static void queuedOfEachSize() {
        CheckpointedStream x = new CheckpointedStream();
        for (int items = 0; items < 8; items++) {
            CHECK.same("queued", x.queued(2, 1), items);
            Streams.fill(x, 2, 5, 1);
        }
        for (int items = 8; items > 0; items--) {
            CHECK.same("queued", x.queued(2, 1), items);
            x.take(1, 2);
        }
        CHECK.same("queued", x.queued(2, 1), 0);
    }

    private static void queuedOfThatChannel() {
        for (int partition = 0; partition < 4; partition++) {
            for (int worker = 0; worker < 4; worker++) {
                CheckpointedStream x = withItems(partition, worker, 8);
                for (int channel = 0; channel < 16; channel++) {
                    int due = channel == 4 * partition + worker ? 8 : 0;
                    CHECK.same("queued", x.queued(channel / 4, channel % 4), due);
                }
            }
        }
    }

    private static void queuedBarriers() {
        CheckpointedStream x = new CheckpointedStream();
        for (int number = 1; number <= 8; number++) {
            x.beginCheckpoint();
            x.sendBarrier(3);
            CHECK.same("queued", x.queued(3, 0), number);
            x.abandon();
            CHECK.same("queued when abandoned", x.queued(3, 1), number);
        }
    }

    private static void itemIsAnEvent() {
        int[] keys = {0, 0, 3, 24, 27};
        int[] values = {1, 100, 50, 1, 100};
        CheckpointedStream x = new CheckpointedStream();
        for (int i = 0; i < keys.length; i++) {
            x.append(0, keys[i], values[i]);
            x.read(0);
        }
        for (int i = 0; i < keys.length; i++) {
            CHECK.same("itemAt", x.itemAt(0, 0, i), 1000 * keys[i] + values[i]);
        }
        x.append(3, 31, 100);
        x.read(3);
        CHECK.same("the largest", x.itemAt(3, 1, 0), 31100);
    }

    private static void itemIsABarrier() {
        CheckpointedStream x = Streams.ofWorkers(4);
        for (int number = 1; number <= 8; number++) {
            x.beginCheckpoint();
            x.sendBarrier(2);
            for (int worker = 0; worker < 4; worker++) {
                CHECK.same("itemAt", x.itemAt(2, worker, number - 1), -number);
                CHECK.same("itemAt of the first", x.itemAt(2, worker, 0), -1);
            }
            x.abandon();
        }
    }

    private static void placesFromTheFirst() {
        CheckpointedStream x = withItems(1, 2, 8);
        for (int taken = 0; taken < 8; taken++) {
            for (int place = 0; place < 8 - taken; place++) {
                CHECK.same("itemAt " + place, x.itemAt(1, 2, place), 12000 + taken + place + 1);
            }
            x.take(2, 1);
        }
    }

    private static void itemsOfThatChannel() {
        CheckpointedStream x = Streams.ofWorkers(4);
        for (int channel = 0; channel < 16; channel++) {
            x.append(channel / 4, Streams.keyOf(4, channel % 4, 0), channel + 1);
            x.read(channel / 4);
        }
        for (int channel = 0; channel < 16; channel++) {
            int due = 1000 * Streams.keyOf(4, channel % 4, 0) + channel + 1;
            CHECK.same("itemAt", x.itemAt(channel / 4, channel % 4, 0), due);
        }
    }

    private static void noSuchPlace() {
        for (int items : new int[] {1, 7, 8}) {
            CHECK.takenFromTo("place of " + items, 0, items - 1, Check.NO_SUCH, () -> withItems(3, 3, items),
                    (x, place) -> x.itemAt(3, 3, place));
        }
        for (int place : new int[] {-1, 0, 1, 7, 8, Integer.MIN_VALUE, Integer.MAX_VALUE}) {
            CHECK.refused("place " + place + " of none", Check.NO_SUCH, () -> withItems(3, 3, 8),
                    x -> x.itemAt(3, 2, place));
            CHECK.refused("place " + place + " of all taken", Check.NO_SUCH, () -> {
                CheckpointedStream x = withItems(0, 0, 8);
                Streams.take(x, 0, 0, 8);
                return x;
            }, x -> x.itemAt(0, 0, place));
        }
    }

    private static void noneOfThem() {
        CHECK.refused("partition, worker, place", Check.NO_SUCH, () -> withItems(3, 3, 8), x -> x.itemAt(4, 4, 8));
        CHECK.refused("partition, worker, place", Check.NO_SUCH, () -> withItems(0, 0, 8), x -> x.itemAt(-1, -1, -1));
        CHECK.refused("worker, place", Check.NO_SUCH, () -> withItems(3, 3, 8), x -> x.itemAt(3, 4, 8));
    }

    private static void blockedBehindItsBarrier() {
        for (int partition = 0; partition < 4; partition++) {
            for (int worker = 0; worker < 4; worker++) {
                CheckpointedStream x = withBarriers(4);
                x.take(worker, partition);
                for (int channel = 0; channel < 16; channel++) {
                    int due = channel == 4 * partition + worker ? 1 : 0;
                    CHECK.same("isBlocked", x.isBlocked(channel / 4, channel % 4) ? 1 : 0, due);
                }
            }
        }
    }

    private static void notBlockedAhead() {
        CheckpointedStream x = new CheckpointedStream();
        Streams.fill(x, 0, 0, 1);
        x.beginCheckpoint();
        CHECK.no("begun", x.isBlocked(0, 0));
        x.sendBarrier(0);
        CHECK.no("sent", x.isBlocked(0, 0));
        x.take(0, 0);
        CHECK.no("an event ahead of it taken", x.isBlocked(0, 0));
        x.take(0, 0);
        CHECK.yes("the barrier taken", x.isBlocked(0, 0));
    }

    private static void blockedNoMore() {
        for (int end = 0; end < 4; end++) {
            CheckpointedStream x = withBarriers(1);
            x.take(0, 0);
            x.take(0, 1);
            x.take(0, 2);
            if (end == 0) {
                x.take(0, 3);
            } else if (end == 1) {
                x.abandon();
            } else if (end == 2) {
                x.crash();
            } else {
                x.rescale(1);
            }
            for (int partition = 0; partition < 4; partition++) {
                CHECK.no("isBlocked by way " + end, x.isBlocked(partition, 0));
            }
        }
    }
}
