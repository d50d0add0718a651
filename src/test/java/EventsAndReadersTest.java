/** Promises 1 to 4: a new object, append, read, sendBarrier. */
final class EventsAndReadersTest {
    private static final Check CHECK = new Check("EventsAndReadersTest");

    public static void main(String[] args) {
        newObject();
        objectsAreApart();
        append();
        appendRefuses();
        appendFillsARow();
        read();
        readRefusesWithoutEvent();
        readRefusesAFullChannel();
        sendBarrier();
        sendBarrierOncePerCheckpoint();
        sendBarrierRefusesAFullChannel();
        CHECK.finish();
    }

    private static void newObject() {
        CheckpointedStream x = new CheckpointedStream();
        CHECK.same("new workers", x.workers(), 2);
        CHECK.same("new underWay", x.underWay(), CheckpointedStream.NONE);
        CHECK.same("new complete", x.complete(), CheckpointedStream.NONE);
        CHECK.same("new committed", x.committed(), 0);
        for (int partition = 0; partition < 4; partition++) {
            CHECK.same("new events", x.events(partition), 0);
            CHECK.same("new offset", x.offset(partition), 0);
            CHECK.same("new keptOffset", x.keptOffset(partition), 0);
            CHECK.no("new hasSent", x.hasSent(partition));
            for (int worker = 0; worker < 2; worker++) {
                CHECK.same("new queued", x.queued(partition, worker), 0);
                CHECK.no("new isBlocked", x.isBlocked(partition, worker));
                CHECK.same("new open", x.open(worker), 0);
                CHECK.same("new sealed", x.sealed(worker), CheckpointedStream.NONE);
            }
        }
        for (int key = 0; key < 32; key++) {
            CHECK.same("new sums", x.count(key) + x.sum(key) + x.keptSum(key), 0);
            CHECK.same("new sink", x.committedCount(key) + x.committedSum(key), 0);
            CHECK.same("new readers", x.readSum(key) + x.sumInChannels(key), 0);
        }
    }

    private static void objectsAreApart() {
        CheckpointedStream one = Streams.withCompleteCheckpoint();
        CheckpointedStream other = new CheckpointedStream();
        CHECK.sameText("another object", Snapshot.of(other), Snapshot.of(new CheckpointedStream()));
        other.append(0, 0, 1);
        CHECK.same("the first object's row", one.events(0), 1);
        CHECK.same("the first object's event", one.eventAt(0, 0), 1010);
    }

    private static void append() {
        CheckpointedStream x = new CheckpointedStream();
        CHECK.same("append first", x.append(0, 0, 1), 0);
        CHECK.same("append second", x.append(0, 31, 100), 1);
        CHECK.same("append to another", x.append(3, 5, 50), 0);
        CHECK.same("append to the first again", x.append(0, 7, 7), 2);
        CHECK.same("events(0)", x.events(0), 3);
        CHECK.same("events(3)", x.events(3), 1);
        CHECK.same("eventAt(0, 0)", x.eventAt(0, 0), 1);
        CHECK.same("eventAt(0, 1)", x.eventAt(0, 1), 31100);
        CHECK.same("eventAt(3, 0)", x.eventAt(3, 0), 5050);
        CHECK.same("append reads nothing", x.offset(0), 0);
    }

    private static void appendRefuses() {
        CheckpointedStream x = new CheckpointedStream();
        CHECK.refusedPast("append to partition", 4, x, p -> x.append(p, 0, 1));
        CHECK.refusedPast("append key", 32, x, k -> x.append(0, k, 1));
        CHECK.refused("append value 0", Check.OUT_OF_RANGE, x, () -> x.append(0, 0, 0));
        CHECK.refused("append value 101", Check.OUT_OF_RANGE, x, () -> x.append(0, 0, 101));
        CHECK.refused("append value -1", Check.OUT_OF_RANGE, x, () -> x.append(0, 0, -1));
        CHECK.refused("append least value", Check.OUT_OF_RANGE, x, () -> x.append(0, 0, Integer.MIN_VALUE));
        CHECK.refused("append largest value", Check.OUT_OF_RANGE, x, () -> x.append(0, 0, Integer.MAX_VALUE));
        CHECK.refused("partition ahead of value", Check.NO_SUCH, x, () -> x.append(4, 0, 0));
        CHECK.refused("key ahead of value", Check.NO_SUCH, x, () -> x.append(0, 32, 101));
    }

    private static void appendFillsARow() {
        CheckpointedStream x = new CheckpointedStream();
        for (int i = 0; i < 60; i++) {
            CHECK.same("append to the row", x.append(3, i % 32, i + 1), i);
        }
        CHECK.same("a full row", x.events(3), 60);
        CHECK.same("its last event", x.eventAt(3, 59), 27060);
        CHECK.refused("append to a full row", Check.NOT_NOW, x, () -> x.append(3, 0, 1));
        CHECK.refused("key ahead of the full row", Check.NO_SUCH, x, () -> x.append(3, 32, 1));
        CHECK.refused("value ahead of the full row", Check.OUT_OF_RANGE, x, () -> x.append(3, 0, 101));
        CHECK.same("append to another row", x.append(2, 0, 1), 0);
        x.pump(20);
        CHECK.refused("append after reading", Check.NOT_NOW, x, () -> x.append(3, 0, 1));
        x.pump(20);
        x.pump(20);
        CHECK.same("all of a full row is read", x.offset(3), 60);
        CHECK.refused("read past a full row", Check.NOT_NOW, x, () -> x.read(3));
    }

    private static void read() {
        CheckpointedStream x = new CheckpointedStream();
        x.append(1, 3, 10);
        x.append(1, 4, 20);
        x.append(1, 11, 30);
        CHECK.same("read key 3", x.read(1), 0);
        CHECK.same("offset then", x.offset(1), 1);
        CHECK.same("read key 4", x.read(1), 1);
        CHECK.same("read key 11", x.read(1), 0);
        CHECK.same("offset at the end", x.offset(1), 3);
        CHECK.same("offset of another", x.offset(0), 0);
        CHECK.same("queued(1, 0)", x.queued(1, 0), 2);
        CHECK.same("itemAt(1, 0, 0)", x.itemAt(1, 0, 0), 3010);
        CHECK.same("itemAt(1, 0, 1)", x.itemAt(1, 0, 1), 11030);
        CHECK.same("itemAt(1, 1, 0)", x.itemAt(1, 1, 0), 4020);
        CHECK.same("queued(0, 0)", x.queued(0, 0), 0);
        CHECK.same("read changes no state", x.count(3) + x.open(0), 0);
    }

    private static void readRefusesWithoutEvent() {
        CheckpointedStream x = new CheckpointedStream();
        CHECK.refused("read an empty row", Check.NOT_NOW, x, () -> x.read(0));
        x.append(0, 0, 1);
        CHECK.refused("read another row", Check.NOT_NOW, x, () -> x.read(1));
        CHECK.refusedPast("read partition", 4, x, p -> x.read(p));
        x.read(0);
        CHECK.refused("read behind the last", Check.NOT_NOW, x, () -> x.read(0));
        x.append(0, 0, 1);
        CHECK.same("read what came then", x.read(0), 0);
    }

    private static void readRefusesAFullChannel() {
        CheckpointedStream x = new CheckpointedStream();
        Streams.append(x, 0, 0, 1, 9);
        x.append(0, 4, 1);
        x.append(1, 0, 1);
        Streams.read(x, 0, 8);
        CHECK.same("a full channel", x.queued(0, 0), 8);
        CHECK.refused("read into a full channel", Check.NOT_NOW, x, () -> x.read(0));
        CHECK.same("the channel of another partition has room", x.read(1), 0);
        x.take(0, 0);
        CHECK.same("read into the room", x.read(0), 0);
        CHECK.same("full again", x.queued(0, 0), 8);
        CHECK.same("the other worker's channel has room", x.read(0), 1);
    }

    private static void sendBarrier() {
        CheckpointedStream x = new CheckpointedStream();
        CHECK.refused("sendBarrier without checkpoint", Check.NOT_NOW, x, () -> x.sendBarrier(0));
        CHECK.refusedPast("sendBarrier partition", 4, x, p -> x.sendBarrier(p));
        Streams.append(x, 2, 0, 5, 3);
        Streams.read(x, 2, 2);
        x.beginCheckpoint();
        CHECK.same("sendBarrier keeps", x.sendBarrier(2), 2);
        CHECK.same("its place with worker 0", x.itemAt(2, 0, 2), -1);
        CHECK.same("its place with worker 1", x.itemAt(2, 1, 0), -1);
        CHECK.yes("hasSent(2)", x.hasSent(2));
        CHECK.no("hasSent(0)", x.hasSent(0));
        CHECK.same("another channel", x.queued(0, 0), 0);
        CHECK.same("offset stays", x.offset(2), 2);
        CHECK.same("not kept yet for a complete one", x.keptOffset(2), 0);
        CHECK.refused("sendBarrier twice", Check.NOT_NOW, x, () -> x.sendBarrier(2));
        CHECK.refusedPast("sendBarrier partition under way", 4, x, p -> x.sendBarrier(p));
        CHECK.same("sendBarrier of another", x.sendBarrier(0), 0);
        CHECK.same("read behind the barrier", x.read(2), 0);
        CHECK.same("the event behind it", x.itemAt(2, 0, 3), 5);
    }

    private static void sendBarrierOncePerCheckpoint() {
        CheckpointedStream x = new CheckpointedStream();
        x.beginCheckpoint();
        x.sendBarrier(0);
        x.abandon();
        CHECK.no("hasSent after abandon", x.hasSent(0));
        CHECK.refused("sendBarrier after abandon", Check.NOT_NOW, x, () -> x.sendBarrier(0));
        x.beginCheckpoint();
        CHECK.no("hasSent for the next", x.hasSent(0));
        CHECK.same("sendBarrier for the next", x.sendBarrier(0), 0);
        CHECK.same("the old barrier", x.itemAt(0, 1, 0), -1);
        CHECK.same("the new barrier", x.itemAt(0, 1, 1), -2);

        CheckpointedStream four = new CheckpointedStream();
        four.rescale(4);
        four.beginCheckpoint();
        four.sendBarrier(3);
        for (int worker = 0; worker < 4; worker++) {
            CHECK.same("a barrier for each of four", four.itemAt(3, worker, 0), -1);
        }
    }

    private static void sendBarrierRefusesAFullChannel() {
        CheckpointedStream x = new CheckpointedStream();
        Streams.append(x, 0, 31, 1, 8);
        Streams.read(x, 0, 8);
        x.beginCheckpoint();
        CHECK.refused("sendBarrier to a full last channel", Check.NOT_NOW, x, () -> x.sendBarrier(0));
        CHECK.same("another partition has room", x.sendBarrier(1), 0);
        x.take(1, 0);
        CHECK.same("sendBarrier into the room", x.sendBarrier(0), 8);
        CHECK.same("full with the barrier", x.queued(0, 1), 8);
        CHECK.same("the barrier is last", x.itemAt(0, 1, 7), -1);

        CheckpointedStream first = new CheckpointedStream();
        Streams.append(first, 0, 0, 1, 8);
        Streams.read(first, 0, 8);
        first.beginCheckpoint();
        CHECK.refused("sendBarrier to a full first channel", Check.NOT_NOW, first, () -> first.sendBarrier(0));
    }
}
