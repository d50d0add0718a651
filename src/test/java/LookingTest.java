/** Promises 12 to 34: the calls that look and change nothing. */
final class LookingTest {
    private static final Check CHECK = new Check("LookingTest");

    public static void main(String[] args) {
        partitions();
        channels();
        workersAndGroups();
        states();
        transactions();
        checkpointsUnderWay();
        keptOnes();
        sink();
        readSum();
        sumInChannels();
        wrongArguments();
        lookingChangesNothing();
        CHECK.finish();
    }

    private static void partitions() {
        CheckpointedStream x = new CheckpointedStream();
        x.append(0, 0, 1);
        x.append(0, 31, 100);
        x.append(2, 7, 42);
        x.read(0);
        CHECK.same("events(0)", x.events(0), 2);
        CHECK.same("events(1)", x.events(1), 0);
        CHECK.same("events(2)", x.events(2), 1);
        CHECK.same("offset(0)", x.offset(0), 1);
        CHECK.same("offset(2)", x.offset(2), 0);
        CHECK.same("eventAt of what was read", x.eventAt(0, 0), 1);
        CHECK.same("eventAt of the last", x.eventAt(0, 1), 31100);
        CHECK.same("eventAt(2, 0)", x.eventAt(2, 0), 7042);
        CHECK.refusedPast("eventAt offset", 2, x, o -> x.eventAt(0, o));
        CHECK.refusedPast("eventAt of an empty row", 0, x, o -> x.eventAt(1, o));
        CHECK.refusedPast("eventAt partition", 4, x, p -> x.eventAt(p, 0));
    }

    private static void channels() {
        CheckpointedStream x = new CheckpointedStream();
        Streams.append(x, 1, 5, 6, 8);
        Streams.read(x, 1, 8);
        x.append(3, 0, 2);
        x.read(3);
        CHECK.same("queued of a full one", x.queued(1, 1), 8);
        CHECK.same("queued(1, 0)", x.queued(1, 0), 0);
        CHECK.same("queued(3, 0)", x.queued(3, 0), 1);
        CHECK.same("queued(3, 1)", x.queued(3, 1), 0);
        CHECK.same("itemAt first", x.itemAt(1, 1, 0), 5006);
        CHECK.same("itemAt last", x.itemAt(1, 1, 7), 5006);
        CHECK.same("itemAt(3, 0, 0)", x.itemAt(3, 0, 0), 2);
        CHECK.refusedPast("itemAt place of a full one", 8, x, i -> x.itemAt(1, 1, i));
        CHECK.refusedPast("itemAt place", 1, x, i -> x.itemAt(3, 0, i));
        CHECK.refusedPast("itemAt place of an empty one", 0, x, i -> x.itemAt(3, 1, i));
        x.beginCheckpoint();
        x.sendBarrier(3);
        CHECK.same("itemAt of a barrier", x.itemAt(3, 0, 1), -1);
        x.abandon();
        x.beginCheckpoint();
        x.sendBarrier(3);
        CHECK.same("itemAt of the next barrier", x.itemAt(3, 0, 2), -2);
        CHECK.same("itemAt of the abandoned barrier", x.itemAt(3, 0, 1), -1);
        CHECK.same("a barrier counts as an item", x.queued(3, 1), 2);
        x.take(1, 3);
        CHECK.same("queued after take", x.queued(3, 1), 1);
        CHECK.same("the first one after take", x.itemAt(3, 1, 0), -2);
        CHECK.no("isBlocked ahead", x.isBlocked(3, 1));
        x.take(1, 3);
        CHECK.yes("isBlocked(3, 1)", x.isBlocked(3, 1));
        CHECK.no("isBlocked(3, 0)", x.isBlocked(3, 0));
        CHECK.no("isBlocked(1, 1)", x.isBlocked(1, 1));
    }

    private static void workersAndGroups() {
        int[][] groups = {{8}, {4, 44}, {3, 33, 62}, {2, 22, 42, 62}};
        for (int n = 1; n <= 4; n++) {
            CheckpointedStream x = new CheckpointedStream();
            x.rescale(n);
            CHECK.same("workers", x.workers(), n);
            for (int worker = 0; worker < n; worker++) {
                CHECK.same("groupsOf(" + worker + ") of " + n, x.groupsOf(worker), groups[n - 1][worker]);
            }
            for (int key = 0; key < 32; key++) {
                CHECK.same("workerOf(" + key + ") of " + n, x.workerOf(key), key % 8 * n / 8);
            }
            CHECK.refusedPast("groupsOf", n, x, x::groupsOf);
            CHECK.refusedPast("workerOf", 32, x, x::workerOf);
        }
    }

    private static void states() {
        CheckpointedStream x = new CheckpointedStream();
        x.append(0, 31, 100);
        x.append(1, 31, 50);
        x.append(2, 0, 1);
        x.pump(1);
        CHECK.same("count(31)", x.count(31), 2);
        CHECK.same("sum(31)", x.sum(31), 150);
        CHECK.same("count(0)", x.count(0), 1);
        CHECK.same("sum(0)", x.sum(0), 1);
        CHECK.same("count of another key of the group", x.count(23), 0);
        CHECK.same("sum of another key of the group", x.sum(23), 0);
    }

    private static void transactions() {
        CheckpointedStream x = Streams.withCompleteCheckpoint();
        x.append(0, 3, 1);
        x.append(0, 11, 1);
        x.append(0, 7, 1);
        x.pump(3);
        CHECK.same("open(0)", x.open(0), 2);
        CHECK.same("open(1)", x.open(1), 1);
        CHECK.same("sealed(0)", x.sealed(0), 1);
        CHECK.same("sealed(1)", x.sealed(1), 1);
        x.commit(1);
        CHECK.same("sealed after commit", x.sealed(1), CheckpointedStream.NONE);
        CHECK.same("sealed of the other", x.sealed(0), 1);
    }

    private static void checkpointsUnderWay() {
        CheckpointedStream x = Streams.withCommittedCheckpoint();
        CHECK.same("underWay", x.underWay(), CheckpointedStream.NONE);
        CHECK.same("complete", x.complete(), 1);
        CHECK.no("hasSent when complete", x.hasSent(0));
        x.beginCheckpoint();
        CHECK.same("underWay then", x.underWay(), 2);
        CHECK.same("complete then", x.complete(), 1);
        CHECK.no("hasSent of the new one", x.hasSent(0));
        x.sendBarrier(3);
        CHECK.yes("hasSent(3)", x.hasSent(3));
        CHECK.no("hasSent(2)", x.hasSent(2));
        x.abandon();
        CHECK.no("hasSent after abandon", x.hasSent(3));
        CHECK.same("complete after abandon", x.complete(), 1);
    }

    private static void keptOnes() {
        CheckpointedStream x = Streams.withCommittedCheckpoint();
        CHECK.same("keptOffset(0)", x.keptOffset(0), 1);
        CHECK.same("keptOffset(3)", x.keptOffset(3), 0);
        CHECK.same("keptSum(1)", x.keptSum(1), 30);
        CHECK.same("keptSum(4)", x.keptSum(4), 7);
        CHECK.same("keptSum(0)", x.keptSum(0), 0);
        x.append(0, 1, 9);
        x.append(3, 4, 9);
        x.pump(1);
        CHECK.same("keptOffset stays", x.keptOffset(0), 1);
        CHECK.same("keptSum stays", x.keptSum(1), 30);
        x.beginCheckpoint();
        Streams.sendAllBarriers(x);
        Streams.takeFromAll(x, 0);
        CHECK.same("keptOffset stays while under way", x.keptOffset(0), 1);
        CHECK.same("keptSum stays while under way", x.keptSum(1), 30);
        Streams.takeFromAll(x, 1);
        CHECK.same("keptOffset of the next", x.keptOffset(0), 2);
        CHECK.same("keptOffset(3) of the next", x.keptOffset(3), 1);
        CHECK.same("keptSum of the next", x.keptSum(1), 39);
        CHECK.same("keptSum(4) of the next", x.keptSum(4), 16);
    }

    private static void sink() {
        CheckpointedStream x = Streams.withCompleteCheckpoint();
        CHECK.same("sealed ones are not in the sink", x.committed(), 0);
        x.commit(1);
        CHECK.same("committedCount(4)", x.committedCount(4), 1);
        CHECK.same("committedSum(4)", x.committedSum(4), 7);
        CHECK.same("committedCount(1)", x.committedCount(1), 0);
        CHECK.same("committed", x.committed(), 1);
        x.commit(0);
        CHECK.same("committedCount(1) then", x.committedCount(1), 2);
        CHECK.same("committedSum(1) then", x.committedSum(1), 30);
        CHECK.same("committed of all keys", x.committed(), 3);
        x.append(0, 31, 1);
        x.pump(1);
        CHECK.same("open ones are not in the sink", x.committedCount(31), 0);
        x.rescale(3);
        CHECK.same("the sink stays", x.committed(), 3);
    }

    private static void readSum() {
        CheckpointedStream x = new CheckpointedStream();
        x.append(0, 9, 10);
        x.append(0, 1, 99);
        x.append(0, 9, 20);
        x.append(3, 9, 40);
        CHECK.same("nothing is read", x.readSum(9), 0);
        x.read(0);
        CHECK.same("one is read", x.readSum(9), 10);
        x.read(0);
        CHECK.same("another key is read", x.readSum(9), 10);
        x.read(0);
        x.read(3);
        CHECK.same("all are read, of two partitions", x.readSum(9), 70);
        CHECK.same("readSum(1)", x.readSum(1), 99);
        CHECK.same("readSum of none", x.readSum(31), 0);
        x.take(0, 0);
        CHECK.same("taking changes nothing of it", x.readSum(9), 70);
        x.crash();
        CHECK.same("readers stand at 0", x.readSum(9), 0);
    }

    private static void sumInChannels() {
        CheckpointedStream x = new CheckpointedStream();
        x.append(0, 9, 10);
        x.append(0, 1, 99);
        x.append(3, 9, 40);
        x.append(2, 31, 5);
        x.append(2, 0, 1);
        CHECK.same("nothing is in channels", x.sumInChannels(9), 0);
        Streams.read(x, 0, 2);
        x.read(3);
        Streams.read(x, 2, 2);
        x.beginCheckpoint();
        Streams.sendAllBarriers(x);
        CHECK.same("of two channels", x.sumInChannels(9), 50);
        CHECK.same("sumInChannels(1)", x.sumInChannels(1), 99);
        CHECK.same("of the other worker", x.sumInChannels(31), 5);
        CHECK.same("the least event; barriers have no key", x.sumInChannels(0), 1);
        x.take(0, 0);
        CHECK.same("one is taken", x.sumInChannels(9), 40);
        x.rescale(4);
        CHECK.same("channels are empty", x.sumInChannels(9) + x.sumInChannels(1) + x.sumInChannels(31), 0);
    }

    private static void wrongArguments() {
        CheckpointedStream x = Streams.withCompleteCheckpoint();
        x.append(0, 0, 1);
        x.read(0);
        CHECK.refusedPast("events", 4, x, x::events);
        CHECK.refusedPast("offset", 4, x, x::offset);
        CHECK.refusedPast("hasSent", 4, x, x::hasSent);
        CHECK.refusedPast("keptOffset", 4, x, x::keptOffset);
        CHECK.refusedPast("queued partition", 4, x, p -> x.queued(p, 0));
        CHECK.refusedPast("queued worker", 2, x, w -> x.queued(0, w));
        CHECK.refusedPast("itemAt partition", 4, x, p -> x.itemAt(p, 0, 0));
        CHECK.refusedPast("itemAt worker", 2, x, w -> x.itemAt(0, w, 0));
        CHECK.refusedPast("isBlocked partition", 4, x, p -> x.isBlocked(p, 0));
        CHECK.refusedPast("isBlocked worker", 2, x, w -> x.isBlocked(0, w));
        CHECK.refusedPast("workerOf", 32, x, x::workerOf);
        CHECK.refusedPast("groupsOf", 2, x, x::groupsOf);
        CHECK.refusedPast("count", 32, x, x::count);
        CHECK.refusedPast("sum", 32, x, x::sum);
        CHECK.refusedPast("open", 2, x, x::open);
        CHECK.refusedPast("sealed", 2, x, x::sealed);
        CHECK.refusedPast("keptSum", 32, x, x::keptSum);
        CHECK.refusedPast("committedCount", 32, x, x::committedCount);
        CHECK.refusedPast("committedSum", 32, x, x::committedSum);
        CHECK.refusedPast("readSum", 32, x, x::readSum);
        CHECK.refusedPast("sumInChannels", 32, x, x::sumInChannels);
        x.rescale(4);
        CHECK.same("the fourth worker is there", x.queued(0, 3) + x.open(3), 0);
        x.rescale(1);
        CHECK.refusedPast("queued of a worker that is gone", 1, x, w -> x.queued(0, w));
        CHECK.refusedPast("isBlocked of a worker that is gone", 1, x, w -> x.isBlocked(0, w));
        CHECK.refusedPast("sealed of a worker that is gone", 1, x, x::sealed);
    }

    private static void lookingChangesNothing() {
        CheckpointedStream x = Streams.withCompleteCheckpoint();
        x.append(0, 1, 3);
        x.read(0);
        String first = Snapshot.of(x);
        CHECK.sameText("looked at twice", Snapshot.of(x), first);
        CHECK.same("it goes on as before", x.take(0, 0), 3);
    }
}
