/** Promises 8 to 11: beginCheckpoint, abandon, crash, rescale. */
final class CheckpointsTest {
    private static final Check CHECK = new Check("CheckpointsTest");

    public static void main(String[] args) {
        beginCheckpoint();
        beginRefusesWhileSealed();
        abandon();
        abandonGivesBackTheSealed();
        abandonKeepsTheLatestComplete();
        crashWithoutCheckpoint();
        crashCommitsTheSealed();
        crashLosesWhatIsUnderWay();
        crashKeepsNumbers();
        rescaleCountsGroups();
        rescaleStartsAgain();
        rescaleRefuses();
        eachEventCountsOnce();
        CHECK.finish();
    }

    private static void beginCheckpoint() {
        CheckpointedStream x = new CheckpointedStream();
        CHECK.same("begin the first", x.beginCheckpoint(), 1);
        CHECK.same("underWay", x.underWay(), 1);
        CHECK.refused("begin while under way", Check.NOT_NOW, x, x::beginCheckpoint);
        x.abandon();
        CHECK.same("begin the second", x.beginCheckpoint(), 2);
        CHECK.same("none complete", x.complete(), CheckpointedStream.NONE);
    }

    private static void beginRefusesWhileSealed() {
        CheckpointedStream x = Streams.withCompleteCheckpoint();
        CHECK.refused("begin while two are sealed", Check.NOT_NOW, x, x::beginCheckpoint);
        x.commit(0);
        CHECK.refused("begin while the last is sealed", Check.NOT_NOW, x, x::beginCheckpoint);
        x.commit(1);
        CHECK.same("begin when none is sealed", x.beginCheckpoint(), 2);
        CHECK.same("the complete one stays", x.complete(), 1);

        CheckpointedStream other = Streams.withCompleteCheckpoint();
        other.commit(1);
        CHECK.refused("begin while the first is sealed", Check.NOT_NOW, other, other::beginCheckpoint);
    }

    private static void abandon() {
        CheckpointedStream x = new CheckpointedStream();
        CHECK.refused("abandon none", Check.NOT_NOW, x, x::abandon);
        x.beginCheckpoint();
        Streams.sendAllBarriers(x);
        x.take(0, 0);
        x.take(1, 3);
        CHECK.same("abandon", x.abandon(), 1);
        CHECK.same("none under way", x.underWay(), CheckpointedStream.NONE);
        CHECK.no("worker 0 is free", x.isBlocked(0, 0));
        CHECK.no("worker 1 is free", x.isBlocked(3, 1));
        CHECK.same("barriers stay in channels", x.itemAt(1, 0, 0), -1);
        CHECK.refused("abandon twice", Check.NOT_NOW, x, x::abandon);
        CHECK.same("the number is not used again", x.beginCheckpoint(), 2);
        CHECK.same("abandon the second", x.abandon(), 2);

        CheckpointedStream complete = Streams.withCompleteCheckpoint();
        CHECK.refused("abandon a complete one", Check.NOT_NOW, complete, complete::abandon);
    }

    private static void abandonGivesBackTheSealed() {
        CheckpointedStream x = new CheckpointedStream();
        x.append(0, 0, 5);
        x.append(0, 0, 6);
        x.append(1, 4, 7);
        x.pump(1);
        x.beginCheckpoint();
        Streams.sendAllBarriers(x);
        Streams.takeFromAll(x, 0);
        x.read(0);
        x.take(0, 0);
        CHECK.same("one is sealed, one open", x.open(0), 1);
        x.abandon();
        CHECK.same("both are open", x.open(0), 2);
        CHECK.same("sealed no more", x.sealed(0), CheckpointedStream.NONE);
        CHECK.same("the other's stays open", x.open(1), 1);
        CHECK.same("the state stays", x.sum(0), 11);
        CHECK.refused("commit what is sealed no more", Check.NOT_NOW, x, () -> x.commit(0));

        x.beginCheckpoint();
        Streams.sendAllBarriers(x);
        x.pump(2);
        CHECK.same("the next one is complete", x.complete(), 2);
        CHECK.same("it has all of them", x.commit(0), 2);
        CHECK.same("their sums too", x.committedSum(0), 11);
    }

    private static void abandonKeepsTheLatestComplete() {
        CheckpointedStream x = Streams.withCommittedCheckpoint();
        x.append(0, 1, 60);
        x.pump(1);
        x.beginCheckpoint();
        Streams.sendAllBarriers(x);
        Streams.takeFromAll(x, 0);
        CHECK.same("abandon the second", x.abandon(), 2);
        CHECK.same("complete", x.complete(), 1);
        CHECK.same("keptOffset(0)", x.keptOffset(0), 1);
        CHECK.same("keptSum(1)", x.keptSum(1), 30);
        CHECK.same("crash goes back to it", x.crash(), 1);
        CHECK.same("sum(1)", x.sum(1), 30);
    }

    private static void crashWithoutCheckpoint() {
        CheckpointedStream x = new CheckpointedStream();
        CHECK.same("crash a new one", x.crash(), 0);
        x.append(0, 0, 5);
        x.append(0, 0, 6);
        x.append(0, 4, 7);
        x.pump(1);
        x.read(0);
        CHECK.same("crash", x.crash(), 0);
        CHECK.same("the row stays", x.events(0), 3);
        CHECK.same("the reader stands at 0", x.offset(0), 0);
        CHECK.same("channels are empty", x.queued(0, 0), 0);
        CHECK.same("count(0)", x.count(0), 0);
        CHECK.same("sum(0)", x.sum(0), 0);
        CHECK.same("open(0)", x.open(0), 0);
        CHECK.same("complete", x.complete(), CheckpointedStream.NONE);
        x.pump(4);
        CHECK.same("it goes on from there", x.sum(0), 11);
    }

    private static void crashCommitsTheSealed() {
        CheckpointedStream x = Streams.withCompleteCheckpoint();
        x.append(0, 1, 50);
        x.append(3, 5, 8);
        x.append(3, 5, 9);
        x.pump(1);
        x.read(3);
        x.commit(0);
        CHECK.same("crash", x.crash(), 1);
        CHECK.same("committedSum(1)", x.committedSum(1), 30);
        CHECK.same("the sealed one of the other too", x.committedSum(4), 7);
        CHECK.same("committed", x.committed(), 3);
        CHECK.same("sealed(0)", x.sealed(0), CheckpointedStream.NONE);
        CHECK.same("sealed(1)", x.sealed(1), CheckpointedStream.NONE);
        CHECK.same("open ones are lost", x.open(0) + x.open(1), 0);
        CHECK.same("kept count", x.count(1), 2);
        CHECK.same("kept sum", x.sum(1), 30);
        CHECK.same("what was not kept is gone", x.count(5) + x.sum(5), 0);
        CHECK.same("the reader stands where it kept", x.offset(0), 1);
        CHECK.same("the other reader too", x.offset(3), 0);
        CHECK.same("channels are empty", x.queued(3, 1), 0);
        CHECK.same("crash again", x.crash(), 1);
        CHECK.same("nothing is committed twice", x.committed(), 3);
        CHECK.same("begin is open to it", x.beginCheckpoint(), 2);
    }

    private static void crashLosesWhatIsUnderWay() {
        CheckpointedStream x = Streams.withCommittedCheckpoint();
        x.append(0, 1, 50);
        x.pump(1);
        x.beginCheckpoint();
        Streams.sendAllBarriers(x);
        Streams.takeFromAll(x, 0);
        x.take(1, 0);
        CHECK.same("crash", x.crash(), 1);
        CHECK.same("none under way", x.underWay(), CheckpointedStream.NONE);
        CHECK.same("its sealed transaction is lost", x.committedSum(1), 30);
        CHECK.same("sealed(0)", x.sealed(0), CheckpointedStream.NONE);
        CHECK.same("open(0)", x.open(0), 0);
        CHECK.no("nothing is blocked", x.isBlocked(0, 1));
        CHECK.no("hasSent(0)", x.hasSent(0));
        CHECK.same("its offset is not kept", x.offset(0), 1);
        CHECK.same("its state is not kept", x.sum(1), 30);
        x.pump(1);
        x.beginCheckpoint();
        Streams.sendAllBarriers(x);
        x.pump(1);
        CHECK.same("the next transaction has the event once", x.commit(0), 1);
        CHECK.same("and its value once", x.committedSum(1), 80);

        CheckpointedStream first = new CheckpointedStream();
        first.append(0, 0, 5);
        first.pump(1);
        first.beginCheckpoint();
        Streams.sendAllBarriers(first);
        Streams.takeFromAll(first, 0);
        CHECK.same("crash ahead of the first complete", first.crash(), 0);
        CHECK.same("nothing is committed", first.committed(), 0);
        CHECK.same("offset(0)", first.offset(0), 0);
        CHECK.same("sum(0)", first.sum(0), 0);
    }

    private static void crashKeepsNumbers() {
        CheckpointedStream x = new CheckpointedStream();
        x.beginCheckpoint();
        x.sendBarrier(0);
        x.crash();
        CHECK.same("the number is not used again", x.beginCheckpoint(), 2);
        CHECK.no("no barrier of it is sent", x.hasSent(0));
        x.rescale(3);
        CHECK.same("nor after rescale", x.beginCheckpoint(), 3);
        Streams.sendAllBarriers(x);
        x.pump(1);
        CHECK.same("three workers complete it", x.complete(), 3);
        CHECK.same("crash", x.crash(), 3);
    }

    private static void rescaleCountsGroups() {
        int[][] moved = {
            {0, 4, 5, 6},
            {4, 0, 3, 6},
            {5, 3, 0, 5},
            {6, 6, 5, 0},
        };
        for (int from = 1; from <= 4; from++) {
            for (int to = 1; to <= 4; to++) {
                CheckpointedStream x = new CheckpointedStream();
                x.rescale(from);
                CHECK.same("rescale from " + from + " to " + to, x.rescale(to), moved[from - 1][to - 1]);
                CHECK.same("workers", x.workers(), to);
            }
        }
    }

    private static void rescaleStartsAgain() {
        CheckpointedStream x = Streams.withCompleteCheckpoint();
        x.append(0, 1, 50);
        x.append(0, 1, 51);
        x.pump(1);
        x.read(0);
        CHECK.same("rescale to one", x.rescale(1), 4);
        CHECK.same("both transactions are committed", x.committed(), 3);
        CHECK.same("committedSum(4)", x.committedSum(4), 7);
        CHECK.same("sealed(0)", x.sealed(0), CheckpointedStream.NONE);
        CHECK.same("open(0)", x.open(0), 0);
        CHECK.same("sum(1)", x.sum(1), 30);
        CHECK.same("sum(4)", x.sum(4), 7);
        CHECK.same("offset(0)", x.offset(0), 1);
        CHECK.same("queued(0, 0)", x.queued(0, 0), 0);
        CHECK.same("complete", x.complete(), 1);
        CHECK.same("keptOffset(2)", x.keptOffset(2), 1);
        x.append(3, 4, 3);
        x.pump(2);
        CHECK.same("the one worker has all keys", x.open(0), 3);
        CHECK.same("sum(4) goes on", x.sum(4), 10);

        CheckpointedStream same = Streams.withCommittedCheckpoint();
        same.append(0, 1, 50);
        same.pump(1);
        same.beginCheckpoint();
        Streams.sendAllBarriers(same);
        CHECK.same("rescale to as many", same.rescale(2), 0);
        CHECK.same("starts again too", same.offset(0), 1);
        CHECK.same("sum(1)", same.sum(1), 30);
        CHECK.same("underWay", same.underWay(), CheckpointedStream.NONE);
    }

    private static void rescaleRefuses() {
        CheckpointedStream x = Streams.withCompleteCheckpoint();
        CHECK.refused("rescale 0", Check.OUT_OF_RANGE, x, () -> x.rescale(0));
        CHECK.refused("rescale 5", Check.OUT_OF_RANGE, x, () -> x.rescale(5));
        CHECK.refused("rescale -1", Check.OUT_OF_RANGE, x, () -> x.rescale(-1));
        CHECK.refused("rescale least", Check.OUT_OF_RANGE, x, () -> x.rescale(Integer.MIN_VALUE));
        CHECK.refused("rescale largest", Check.OUT_OF_RANGE, x, () -> x.rescale(Integer.MAX_VALUE));
    }

    private static void eachEventCountsOnce() {
        CheckpointedStream x = new CheckpointedStream();
        for (int i = 0; i < 20; i++) {
            x.append(i % 4, i, i + 1);
        }
        x.pump(2);
        x.beginCheckpoint();
        Streams.sendAllBarriers(x);
        x.pump(2);
        x.crash();
        x.pump(1);
        x.rescale(3);
        x.pump(20);
        x.beginCheckpoint();
        Streams.sendAllBarriers(x);
        x.pump(20);
        CHECK.same("complete", x.complete(), 2);
        x.rescale(4);
        CHECK.same("committed", x.committed(), 20);
        for (int key = 0; key < 20; key++) {
            CHECK.same("committedCount(" + key + ")", x.committedCount(key), 1);
            CHECK.same("committedSum(" + key + ")", x.committedSum(key), key + 1);
        }
    }
}
