/** Promises 5 to 7: take, pump, commit. */
final class WorkersTest {
    private static final Check CHECK = new Check("WorkersTest");

    public static void main(String[] args) {
        takeEvents();
        takeRefuses();
        takeFromEachFullChannel();
        takeBarriers();
        takeBarriersInAnyOrder();
        lastBarrierCompletes();
        takeAbandonedBarrier();
        pumpCounts();
        pumpOrder();
        pumpAndFullChannels();
        pumpAndBarriers();
        pumpRefuses();
        commit();
        commitRefuses();
        CHECK.finish();
    }

    private static void takeEvents() {
        CheckpointedStream x = new CheckpointedStream();
        x.append(0, 2, 10);
        x.append(0, 10, 5);
        x.append(0, 2, 30);
        x.append(1, 2, 100);
        Streams.read(x, 0, 3);
        x.read(1);
        CHECK.same("take first", x.take(0, 0), 1);
        CHECK.same("the next is first then", x.itemAt(0, 0, 0), 10005);
        CHECK.same("take another key", x.take(0, 0), 1);
        CHECK.same("take from another channel", x.take(0, 1), 2);
        CHECK.same("take the key again", x.take(0, 0), 3);
        CHECK.same("count(2)", x.count(2), 3);
        CHECK.same("sum(2)", x.sum(2), 140);
        CHECK.same("count(10)", x.count(10), 1);
        CHECK.same("sum(10)", x.sum(10), 5);
        CHECK.same("open(0)", x.open(0), 4);
        CHECK.same("open(1)", x.open(1), 0);
        CHECK.same("the channel is empty", x.queued(0, 0), 0);
        CHECK.same("nothing is in the sink", x.committed(), 0);
    }

    private static void takeRefuses() {
        CheckpointedStream x = new CheckpointedStream();
        x.append(0, 0, 1);
        x.read(0);
        CHECK.refusedPast("take of worker", 2, x, w -> x.take(w, 0));
        CHECK.refusedPast("take from partition", 4, x, p -> x.take(0, p));
        CHECK.refused("take of worker 3 of 2", Check.NO_SUCH, x, () -> x.take(3, 0));
        CHECK.refused("take from an empty channel", Check.NOT_NOW, x, () -> x.take(1, 0));
        CHECK.refused("take from an empty channel of another", Check.NOT_NOW, x, () -> x.take(0, 1));
        x.take(0, 0);
        CHECK.refused("take what is gone", Check.NOT_NOW, x, () -> x.take(0, 0));
        x.rescale(4);
        x.append(3, 7, 1);
        x.read(0);
        x.read(3);
        CHECK.same("take of the fourth worker", x.take(3, 3), 1);
        CHECK.refusedPast("take of a fifth worker", 4, x, w -> x.take(w, 3));
    }

    private static void takeFromEachFullChannel() {
        for (int partition = 0; partition < 4; partition++) {
            for (int worker = 0; worker < 4; worker++) {
                CheckpointedStream x = new CheckpointedStream();
                x.rescale(4);
                for (int i = 0; i < 8; i++) {
                    x.append(partition, 2 * worker + 8 * (i % 4), i + 1);
                }
                Streams.read(x, partition, 8);
                CHECK.same("a full channel", x.queued(partition, worker), 8);
                for (int i = 0; i < 8; i++) {
                    CHECK.same("its first", x.itemAt(partition, worker, 0) % 1000, i + 1);
                    CHECK.same("taken in order", x.take(worker, partition), 1 + i / 4);
                }
                CHECK.same("an empty channel", x.queued(partition, worker), 0);
            }
        }
    }

    private static void takeBarriersInAnyOrder() {
        for (int last = 0; last < 4; last++) {
            CheckpointedStream x = new CheckpointedStream();
            x.beginCheckpoint();
            Streams.sendAllBarriers(x);
            for (int i = 1; i <= 4; i++) {
                CHECK.same("sealed by " + (i - 1), x.sealed(1), CheckpointedStream.NONE);
                x.take(1, (last + i) % 4);
            }
            CHECK.same("sealed by four", x.sealed(1), 1);
            CHECK.same("the other worker has not sealed", x.complete(), CheckpointedStream.NONE);
            Streams.takeFromAll(x, 0);
            CHECK.same("complete by both", x.complete(), 1);
        }
    }

    private static void takeBarriers() {
        CheckpointedStream x = new CheckpointedStream();
        x.append(0, 0, 9);
        x.append(0, 0, 11);
        x.read(0);
        x.beginCheckpoint();
        Streams.sendAllBarriers(x);
        x.read(0);
        CHECK.same("the event ahead of the barrier", x.take(0, 0), 1);
        CHECK.no("not blocked yet", x.isBlocked(0, 0));
        CHECK.same("take the barrier", x.take(0, 0), 0);
        CHECK.yes("blocked then", x.isBlocked(0, 0));
        CHECK.no("another channel of the worker", x.isBlocked(1, 0));
        CHECK.no("the other worker's channel", x.isBlocked(0, 1));
        CHECK.refused("take from a blocked channel", Check.NOT_NOW, x, () -> x.take(0, 0));
        x.take(0, 1);
        CHECK.refused("take from a blocked empty channel", Check.NOT_NOW, x, () -> x.take(0, 1));
        x.take(0, 3);
        CHECK.same("not sealed by three", x.sealed(0), CheckpointedStream.NONE);
        CHECK.same("open by three", x.open(0), 1);
        CHECK.same("the fourth barrier", x.take(0, 2), 0);
        CHECK.same("sealed by four", x.sealed(0), 1);
        CHECK.same("an empty one is open", x.open(0), 0);
        for (int partition = 0; partition < 4; partition++) {
            CHECK.no("no channel is blocked any more", x.isBlocked(partition, 0));
        }
        CHECK.same("the event behind the barrier", x.take(0, 0), 2);
        CHECK.same("it is in the open one", x.open(0), 1);
        CHECK.same("not complete by one worker", x.complete(), CheckpointedStream.NONE);
        CHECK.same("still under way", x.underWay(), 1);
        CHECK.same("nothing kept yet", x.keptSum(0), 0);
    }

    private static void lastBarrierCompletes() {
        CheckpointedStream x = new CheckpointedStream();
        x.append(0, 0, 9);
        x.append(0, 0, 11);
        x.append(0, 4, 30);
        x.read(0);
        x.beginCheckpoint();
        Streams.sendAllBarriers(x);
        Streams.read(x, 0, 2);
        x.take(0, 0);
        Streams.takeFromAll(x, 0);
        x.take(0, 0);
        Streams.takeFromAll(x, 1);
        CHECK.same("complete", x.complete(), 1);
        CHECK.same("none under way", x.underWay(), CheckpointedStream.NONE);
        CHECK.same("sealed(0)", x.sealed(0), 1);
        CHECK.same("sealed(1), an empty one", x.sealed(1), 1);
        CHECK.same("kept is what was at the cut", x.keptSum(0), 9);
        CHECK.same("kept of the other worker", x.keptSum(4), 0);
        CHECK.same("the state is further", x.sum(0), 20);
        CHECK.same("keptOffset(0)", x.keptOffset(0), 1);
        CHECK.no("hasSent of none", x.hasSent(0));
        CHECK.same("behind it the other worker's event", x.take(1, 0), 1);
        CHECK.same("still nothing kept of it", x.keptSum(4), 0);
    }

    private static void takeAbandonedBarrier() {
        CheckpointedStream x = new CheckpointedStream();
        x.beginCheckpoint();
        Streams.sendAllBarriers(x);
        x.abandon();
        CHECK.same("take an abandoned barrier", x.take(0, 0), 0);
        CHECK.no("it blocks nothing", x.isBlocked(0, 0));
        x.beginCheckpoint();
        x.sendBarrier(1);
        CHECK.same("take an abandoned barrier under way", x.take(0, 1), 0);
        CHECK.no("it blocks nothing under way", x.isBlocked(1, 0));
        CHECK.same("take the barrier under way", x.take(0, 1), 0);
        CHECK.yes("that blocks", x.isBlocked(1, 0));
        Streams.take(x, 0, 2, 1);
        Streams.take(x, 0, 3, 1);
        CHECK.same("abandoned barriers seal nothing", x.sealed(0), CheckpointedStream.NONE);
    }

    private static void pumpCounts() {
        CheckpointedStream x = new CheckpointedStream();
        CHECK.same("pump nothing", x.pump(1), 0);
        CHECK.same("pump nothing for long", x.pump(20), 0);
        x.append(0, 0, 1);
        x.append(0, 4, 2);
        x.append(1, 8, 3);
        CHECK.same("pump a round", x.pump(1), 4);
        CHECK.same("offset(0)", x.offset(0), 1);
        CHECK.same("offset(1)", x.offset(1), 1);
        CHECK.same("count(0)", x.count(0), 1);
        CHECK.same("count(8)", x.count(8), 1);
        CHECK.same("pump the rest", x.pump(2), 2);
        CHECK.same("sum(4)", x.sum(4), 2);
        Streams.append(x, 2, 5, 1, 25);
        CHECK.same("pump 20 rounds", x.pump(20), 40);
        CHECK.same("20 of 25", x.offset(2), 20);
    }

    private static void pumpOrder() {
        CheckpointedStream x = new CheckpointedStream();
        Streams.append(x, 0, 0, 1, 3);
        Streams.read(x, 0, 3);
        CHECK.same("one item from each channel a round", x.pump(1), 1);
        CHECK.same("two are left", x.queued(0, 0), 2);
        x.append(0, 0, 1);
        CHECK.same("reads first, then takes", x.pump(1), 2);
        CHECK.same("again two", x.queued(0, 0), 2);
        x.append(3, 0, 1);
        x.append(3, 4, 1);
        CHECK.same("a reader reads once a round", x.pump(1), 3);
        CHECK.same("offset(3)", x.offset(3), 1);
    }

    private static void pumpAndFullChannels() {
        CheckpointedStream x = new CheckpointedStream();
        Streams.append(x, 0, 0, 1, 9);
        Streams.read(x, 0, 8);
        CHECK.same("a full channel holds the reader back", x.pump(1), 1);
        CHECK.same("it has not read", x.offset(0), 8);
        CHECK.same("there is room in the next round", x.pump(1), 2);
        CHECK.same("it has read", x.offset(0), 9);
    }

    private static void pumpAndBarriers() {
        CheckpointedStream x = new CheckpointedStream();
        x.append(0, 0, 1);
        x.append(3, 0, 1);
        x.beginCheckpoint();
        CHECK.same("pump sends no barrier", x.pump(1), 4);
        CHECK.no("none is sent", x.hasSent(0));
        Streams.sendAllBarriers(x);
        x.append(0, 0, 1);
        x.append(3, 0, 1);
        x.read(0);
        x.read(3);
        CHECK.same("all barriers, each channel once", x.pump(1), 8);
        CHECK.same("complete", x.complete(), 1);
        CHECK.same("the events behind are there", x.queued(0, 0) + x.queued(3, 0), 2);
        CHECK.same("and are taken then", x.pump(1), 2);

        CheckpointedStream held = new CheckpointedStream();
        held.beginCheckpoint();
        held.sendBarrier(0);
        held.append(0, 0, 1);
        CHECK.same("a blocked channel gives nothing", held.pump(5), 3);
        CHECK.same("its event waits", held.queued(0, 0), 1);

        // The barrier from partition 1 is the last one; channel 0 was asked before, channel 2 is asked after it.
        CheckpointedStream asked = new CheckpointedStream();
        asked.beginCheckpoint();
        Streams.sendAllBarriers(asked);
        asked.append(0, 0, 1);
        asked.append(2, 0, 1);
        asked.read(0);
        asked.read(2);
        asked.take(0, 0);
        asked.take(0, 2);
        asked.take(0, 3);
        CHECK.same("if it can when it is asked", asked.pump(1), 6);
        CHECK.same("channel 0 was blocked when asked", asked.queued(0, 0), 1);
        CHECK.same("channel 2 was free when asked", asked.queued(2, 0), 0);
    }

    private static void pumpRefuses() {
        CheckpointedStream x = new CheckpointedStream();
        x.append(0, 0, 1);
        CHECK.refused("pump 0", Check.OUT_OF_RANGE, x, () -> x.pump(0));
        CHECK.refused("pump 21", Check.OUT_OF_RANGE, x, () -> x.pump(21));
        CHECK.refused("pump -1", Check.OUT_OF_RANGE, x, () -> x.pump(-1));
        CHECK.refused("pump least", Check.OUT_OF_RANGE, x, () -> x.pump(Integer.MIN_VALUE));
        CHECK.refused("pump largest", Check.OUT_OF_RANGE, x, () -> x.pump(Integer.MAX_VALUE));
    }

    private static void commit() {
        CheckpointedStream x = Streams.withCompleteCheckpoint();
        x.append(0, 1, 50);
        x.pump(1);
        CHECK.same("commit worker 0", x.commit(0), 2);
        CHECK.same("committedCount(1)", x.committedCount(1), 2);
        CHECK.same("committedSum(1)", x.committedSum(1), 30);
        CHECK.same("not the other worker's", x.committedCount(4), 0);
        CHECK.same("sealed no more", x.sealed(0), CheckpointedStream.NONE);
        CHECK.same("the other is sealed still", x.sealed(1), 1);
        CHECK.same("the open one stays", x.open(0), 1);
        CHECK.same("the state stays", x.sum(1), 80);
        CHECK.same("the checkpoint stays", x.complete(), 1);
        CHECK.refused("commit twice", Check.NOT_NOW, x, () -> x.commit(0));
        CHECK.same("commit worker 1", x.commit(1), 1);
        CHECK.same("committedSum(4)", x.committedSum(4), 7);
        CHECK.same("committed", x.committed(), 3);

        x.beginCheckpoint();
        Streams.sendAllBarriers(x);
        x.pump(1);
        CHECK.same("the next transaction has what is new", x.commit(0), 1);
        CHECK.same("it is added to the sink", x.committedSum(1), 80);
        CHECK.same("an empty transaction", x.commit(1), 0);
        CHECK.same("all counted once", x.committed(), 4);
    }

    private static void commitRefuses() {
        CheckpointedStream x = new CheckpointedStream();
        CHECK.refused("commit without sealed", Check.NOT_NOW, x, () -> x.commit(0));
        CHECK.refusedPast("commit of worker", 2, x, w -> x.commit(w));
        x.append(0, 0, 1);
        x.pump(1);
        CHECK.refused("commit of an open one", Check.NOT_NOW, x, () -> x.commit(0));
        x.beginCheckpoint();
        Streams.sendAllBarriers(x);
        Streams.takeFromAll(x, 0);
        CHECK.same("sealed", x.sealed(0), 1);
        CHECK.refused("commit ahead of complete", Check.NOT_NOW, x, () -> x.commit(0));
        Streams.takeFromAll(x, 1);
        CHECK.same("commit when complete", x.commit(0), 1);

        CheckpointedStream second = Streams.withCommittedCheckpoint();
        second.beginCheckpoint();
        Streams.sendAllBarriers(second);
        Streams.takeFromAll(second, 0);
        CHECK.refused("an older complete one is not enough", Check.NOT_NOW, second, () -> second.commit(0));
    }
}
