/** Promise 1, and what the Terms say of how things are at first. */
final class NewObjectTest {
    private static final Check CHECK = new Check("NewObjectTest");

    public static void main(String[] args) {
        CHECK.sentence("NONE is -1", () -> CHECK.same("NONE", CheckpointedStream.NONE, -1));
        CHECK.sentence("there are at first 2 workers, numbered from 0", NewObjectTest::twoWorkers);
        CHECK.sentence("the partitions 0 to 3 are empty", NewObjectTest::emptyPartitions);
        CHECK.sentence("each reader stands at the offset 0", NewObjectTest::readersAtTheStart);
        CHECK.sentence("each channel is an empty queue, and not blocked", NewObjectTest::emptyChannels);
        CHECK.sentence("a worker has for each key a count and a sum of 0", NewObjectTest::emptyStates);
        CHECK.sentence("each open transaction is empty, and none is sealed", NewObjectTest::emptyTransactions);
        CHECK.sentence("no checkpoint is under way or complete", NewObjectTest::noCheckpoint);
        CHECK.sentence("nothing is kept", NewObjectTest::nothingKept);
        CHECK.sentence("the sink has for each key a count and a sum of 0", NewObjectTest::emptySink);
        CHECK.sentence("nothing is read or in channels", NewObjectTest::nothingRead);
        CHECK.sentence("a new object starts again as it is", NewObjectTest::startsAgainAsItIs);
        CHECK.sentence("two objects have nothing in common", NewObjectTest::objectsAreApart);
        CHECK.finish();
    }

    private static void twoWorkers() {
        CheckpointedStream x = new CheckpointedStream();
        CHECK.same("workers", x.workers(), 2);
        CHECK.same("groups of worker 0", x.groupsOf(0), 4);
        CHECK.same("groups of worker 1", x.groupsOf(1), 44);
        CHECK.refused("worker 2", Check.NO_SUCH, CheckpointedStream::new, y -> y.groupsOf(2));
    }

    private static void emptyPartitions() {
        CheckpointedStream x = new CheckpointedStream();
        for (int partition = 0; partition < 4; partition++) {
            int p = partition;
            CHECK.same("events(" + p + ")", x.events(p), 0);
            CHECK.throwsIt("eventAt(" + p + ", 0)", Check.NO_SUCH, () -> x.eventAt(p, 0));
        }
    }

    private static void readersAtTheStart() {
        CheckpointedStream x = new CheckpointedStream();
        for (int partition = 0; partition < 4; partition++) {
            CHECK.same("offset(" + partition + ")", x.offset(partition), 0);
        }
    }

    private static void emptyChannels() {
        CheckpointedStream x = new CheckpointedStream();
        for (int partition = 0; partition < 4; partition++) {
            for (int worker = 0; worker < 2; worker++) {
                int p = partition;
                int w = worker;
                CHECK.same("queued", x.queued(p, w), 0);
                CHECK.no("isBlocked", x.isBlocked(p, w));
                CHECK.throwsIt("itemAt", Check.NO_SUCH, () -> x.itemAt(p, w, 0));
                CHECK.throwsIt("take", Check.NOT_NOW, () -> x.take(w, p));
            }
        }
    }

    private static void emptyStates() {
        CheckpointedStream x = new CheckpointedStream();
        for (int key = 0; key < 32; key++) {
            CHECK.same("count(" + key + ")", x.count(key), 0);
            CHECK.same("sum(" + key + ")", x.sum(key), 0);
        }
    }

    private static void emptyTransactions() {
        CheckpointedStream x = new CheckpointedStream();
        for (int worker = 0; worker < 2; worker++) {
            CHECK.same("open(" + worker + ")", x.open(worker), 0);
            CHECK.same("sealed(" + worker + ")", x.sealed(worker), CheckpointedStream.NONE);
        }
    }

    private static void noCheckpoint() {
        CheckpointedStream x = new CheckpointedStream();
        CHECK.same("underWay", x.underWay(), CheckpointedStream.NONE);
        CHECK.same("complete", x.complete(), CheckpointedStream.NONE);
        for (int partition = 0; partition < 4; partition++) {
            CHECK.no("hasSent(" + partition + ")", x.hasSent(partition));
        }
    }

    private static void nothingKept() {
        CheckpointedStream x = new CheckpointedStream();
        for (int partition = 0; partition < 4; partition++) {
            CHECK.same("keptOffset(" + partition + ")", x.keptOffset(partition), 0);
        }
        for (int key = 0; key < 32; key++) {
            CHECK.same("keptSum(" + key + ")", x.keptSum(key), 0);
        }
    }

    private static void emptySink() {
        CheckpointedStream x = new CheckpointedStream();
        CHECK.same("committed", x.committed(), 0);
        for (int key = 0; key < 32; key++) {
            CHECK.same("committedCount(" + key + ")", x.committedCount(key), 0);
            CHECK.same("committedSum(" + key + ")", x.committedSum(key), 0);
        }
    }

    private static void nothingRead() {
        CheckpointedStream x = new CheckpointedStream();
        for (int key = 0; key < 32; key++) {
            CHECK.same("readSum(" + key + ")", x.readSum(key), 0);
            CHECK.same("sumInChannels(" + key + ")", x.sumInChannels(key), 0);
        }
    }

    private static void startsAgainAsItIs() {
        CHECK.changesNothing("crash", CheckpointedStream::new, CheckpointedStream::crash);
        CHECK.changesNothing("rescale", CheckpointedStream::new, x -> x.rescale(2));
        CHECK.changesNothing("pump", CheckpointedStream::new, x -> x.pump(20));
    }

    private static void objectsAreApart() {
        CheckpointedStream one = Streams.withCheckpointUnderWay();
        CHECK.same("the first object is under way", one.underWay(), 2);
        CHECK.sameAs("an object made after another", () -> {
            Streams.withCheckpointUnderWay();
            return new CheckpointedStream();
        }, CheckpointedStream::new);
        CHECK.sameAs("an object made ahead of another", () -> {
            CheckpointedStream x = new CheckpointedStream();
            Streams.withCheckpointUnderWay();
            return x;
        }, CheckpointedStream::new);
    }
}
