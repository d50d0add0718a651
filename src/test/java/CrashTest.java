/** Promise 10: crash, and what the Terms say of starting again. */
final class CrashTest {
    private static final Check CHECK = new Check("CrashTest");

    public static void main(String[] args) {
        CHECK.sentence("it returns 0 if no checkpoint is complete", CrashTest::returnsZero);
        CHECK.sentence("it returns the number of the latest complete checkpoint", CrashTest::returnsTheNumber);
        CHECK.sentence("sealed transactions of a complete checkpoint are committed", CrashTest::commitsTheSealed);
        CHECK.sentence("those that were committed are not committed again", CrashTest::commitsOnce);
        CHECK.sentence("what is under way is abandoned", CrashTest::abandonsWhatIsUnderWay);
        CHECK.sentence("its number is not used again", CrashTest::numberNotUsedAgain);
        CHECK.sentence("sealed transactions of a checkpoint that is not complete are lost", CrashTest::losesTheSealed);
        CHECK.sentence("open transactions are lost", CrashTest::losesTheOpen);
        CHECK.sentence("all channels become empty", CrashTest::emptiesChannels);
        CHECK.sentence("no channel is blocked, and no barrier counts any more", CrashTest::forgetsBarriers);
        CHECK.sentence("each reader stands at the offset that it kept", CrashTest::readersAtKeptOffsets);
        CHECK.sentence("each key has the count and sum that were kept", CrashTest::keptCountsAndSums);
        CHECK.sentence("it is the latest complete checkpoint that counts", CrashTest::latestOfSome);
        CHECK.sentence("without a complete one readers stand at 0, and counts and sums are 0", CrashTest::fromTheStart);
        CHECK.sentence("partitions and the sink stay", CrashTest::partitionsAndSinkStay);
        CHECK.sentence("the workers stay as many", CrashTest::workersStay);
        CHECK.sentence("what was kept stays for the next time", CrashTest::keptStays);
        CHECK.sentence("a second crash changes nothing", CrashTest::twice);
        CHECK.sentence("each event counts once", CrashTest::eachEventCountsOnce);
        CHECK.finish();
    }

    private static CheckpointedStream crashed(CheckpointedStream x) {
        x.crash();
        return x;
    }

    private static void returnsZero() {
        CHECK.same("new", new CheckpointedStream().crash(), 0);
        CHECK.same("events taken", Streams.withEventsTaken(3).crash(), 0);
        CheckpointedStream x = new CheckpointedStream();
        x.beginCheckpoint();
        CHECK.same("under way", x.crash(), 0);
        x.beginCheckpoint();
        x.abandon();
        CHECK.same("abandoned", x.crash(), 0);
        CHECK.same("complete is NONE still", x.complete(), CheckpointedStream.NONE);
    }

    private static void returnsTheNumber() {
        CHECK.same("complete", Streams.withCompleteCheckpoint().crash(), 1);
        CHECK.same("committed", Streams.withCommittedCheckpoint().crash(), 1);
        CHECK.same("another under way", Streams.withCheckpointUnderWay().crash(), 1);
        CheckpointedStream x = new CheckpointedStream();
        for (int number = 1; number <= 5; number++) {
            x.beginCheckpoint();
            x.abandon();
            Streams.completeCheckpoint(x);
            CHECK.same("every second one", x.crash(), 2 * number);
            CHECK.same("complete", x.complete(), 2 * number);
        }
    }

    private static void commitsTheSealed() {
        for (int workers = 1; workers <= 4; workers++) {
            CheckpointedStream x = crashed(Streams.completeOf(workers));
            CHECK.same("committed", x.committed(), 3 * workers);
            for (int worker = 0; worker < workers; worker++) {
                CHECK.same("sealed", x.sealed(worker), CheckpointedStream.NONE);
                CHECK.same("committedCount", x.committedCount(Streams.keyOf(workers, worker, 0)), 2);
                CHECK.same("committedSum", x.committedSum(Streams.keyOf(workers, worker, 0)), 30);
                CHECK.same("committedCount", x.committedCount(Streams.keyOf(workers, worker, 1)), 1);
                CHECK.same("committedSum", x.committedSum(Streams.keyOf(workers, worker, 1)), 5);
            }
        }
    }

    private static void commitsOnce() {
        for (int code = 0; code < 8; code++) {
            CheckpointedStream x = Streams.completeOf(3);
            for (int worker = 0; worker < 3; worker++) {
                if ((code >> worker & 1) == 1) {
                    x.commit(worker);
                }
            }
            x.crash();
            CHECK.same("committed", x.committed(), 9);
            for (int worker = 0; worker < 3; worker++) {
                CHECK.same("sealed", x.sealed(worker), CheckpointedStream.NONE);
                CHECK.same("committedSum", x.committedSum(Streams.keyOf(3, worker, 0)), 30);
            }
        }
    }

    private static void abandonsWhatIsUnderWay() {
        CheckpointedStream x = crashed(Streams.withCheckpointUnderWay());
        CHECK.same("underWay", x.underWay(), CheckpointedStream.NONE);
        CHECK.same("sealed(0)", x.sealed(0), CheckpointedStream.NONE);
        for (int partition = 0; partition < 4; partition++) {
            CHECK.no("hasSent", x.hasSent(partition));
        }
        CHECK.same("complete", x.complete(), 1);
    }

    private static void numberNotUsedAgain() {
        CHECK.same("begin", crashed(Streams.withCheckpointUnderWay()).beginCheckpoint(), 3);
        CheckpointedStream x = new CheckpointedStream();
        for (int number = 1; number <= 4; number++) {
            CHECK.same("begin", x.beginCheckpoint(), number);
            x.crash();
        }
    }

    private static void losesTheSealed() {
        CheckpointedStream x = crashed(Streams.withCheckpointUnderWay());
        CHECK.same("committed", x.committed(), 3);
        CHECK.same("committedSum", x.committedSum(1), 30);
        CHECK.same("open", x.open(0), 0);
        x.pump(20);
        Streams.completeCheckpoint(x);
        CHECK.same("what was read again, once", x.commit(0), 3);
        CHECK.same("committedSum then", x.committedSum(1), 113);

        for (int workers = 1; workers <= 4; workers++) {
            for (int sealed = 0; sealed < workers; sealed++) {
                losesWithSealed(workers, sealed, false);
                losesWithSealed(workers, sealed, true);
            }
        }
    }

    /** So many workers have sealed theirs when all starts again, ahead of the first complete one or behind it. */
    private static void losesWithSealed(int workers, int sealed, boolean behindComplete) {
        CheckpointedStream x = behindComplete ? Streams.completeOf(workers) : Streams.withEventsTaken(workers);
        if (behindComplete) {
            Streams.commitAll(x);
            Streams.append(x, 3, 0, 9, 2);
            x.pump(2);
        }
        Streams.beginAndSend(x);
        for (int worker = 0; worker < sealed; worker++) {
            Streams.takeFromAll(x, worker);
        }
        CHECK.same("crash", x.crash(), behindComplete ? 1 : 0);
        CHECK.same("committed", x.committed(), behindComplete ? 3 * workers : 0);
        CHECK.same("committedSum", x.committedSum(0), behindComplete ? 30 : 0);
        for (int worker = 0; worker < workers; worker++) {
            CHECK.same("sealed(" + worker + ")", x.sealed(worker), CheckpointedStream.NONE);
            CHECK.same("open(" + worker + ")", x.open(worker), 0);
        }
        Streams.completeCheckpoint(x);
        CHECK.same("nothing of them is sealed later", x.commit(0), 0);
    }

    private static void losesTheOpen() {
        for (int workers = 1; workers <= 4; workers++) {
            CheckpointedStream x = Streams.completeOf(workers);
            for (int worker = 0; worker < workers; worker++) {
                Streams.fill(x, worker, Streams.keyOf(workers, worker, 0), 2);
                Streams.take(x, worker, worker, 2);
                CHECK.same("open ahead", x.open(worker), 2);
            }
            x.crash();
            CHECK.same("committed", x.committed(), 3 * workers);
            for (int worker = 0; worker < workers; worker++) {
                CHECK.same("open", x.open(worker), 0);
                CHECK.same("committedSum", x.committedSum(Streams.keyOf(workers, worker, 0)), 30);
            }
            Streams.completeCheckpoint(x);
            CHECK.same("nothing of them is sealed later", x.commit(0), 0);
            CHECK.same("nor counts", x.committedSum(0), 30);
        }
    }

    private static void emptiesChannels() {
        CheckpointedStream x = Streams.ofWorkers(4);
        for (int partition = 0; partition < 4; partition++) {
            for (int worker = 0; worker < 4; worker++) {
                Streams.fill(x, partition, Streams.keyOf(4, worker, partition), 1 + worker);
            }
        }
        Streams.fill(x, 2, 0, 7);
        x.beginCheckpoint();
        x.sendBarrier(1);
        x.crash();
        for (int partition = 0; partition < 4; partition++) {
            for (int worker = 0; worker < 4; worker++) {
                int p = partition;
                int w = worker;
                CHECK.same("queued", x.queued(p, w), 0);
                CHECK.throwsIt("itemAt", Check.NO_SUCH, () -> x.itemAt(p, w, 0));
                CHECK.throwsIt("take", Check.NOT_NOW, () -> x.take(w, p));
            }
        }
        for (int key = 0; key < 32; key++) {
            CHECK.same("sumInChannels", x.sumInChannels(key), 0);
        }
        CHECK.same("there is room again", x.read(2), 0);
        CHECK.same("for the first event", x.itemAt(2, 0, 0), 16001);
    }

    private static void forgetsBarriers() {
        CheckpointedStream x = new CheckpointedStream();
        Streams.beginAndSend(x);
        for (int worker = 0; worker < 2; worker++) {
            x.take(worker, 0);
            x.take(worker, 1);
            x.take(worker, 2);
        }
        x.crash();
        for (int partition = 0; partition < 4; partition++) {
            CHECK.no("isBlocked", x.isBlocked(partition, 0));
            CHECK.no("isBlocked", x.isBlocked(partition, 1));
        }
        Streams.beginAndSend(x);
        x.take(0, 3);
        CHECK.same("one barrier of the next does not seal", x.sealed(0), CheckpointedStream.NONE);
        x.take(0, 0);
        x.take(0, 1);
        x.take(0, 2);
        CHECK.same("four do", x.sealed(0), 2);
    }

    private static void readersAtKeptOffsets() {
        for (int partition = 0; partition < 4; partition++) {
            CheckpointedStream x = new CheckpointedStream();
            for (int other = 0; other < 4; other++) {
                Streams.append(x, other, other, 9, 10);
            }
            for (int i = 0; i <= partition; i++) {
                x.read(partition);
                x.take(0, partition);
            }
            Streams.completeCheckpoint(x);
            x.pump(5);
            x.crash();
            for (int other = 0; other < 4; other++) {
                int due = other == partition ? partition + 1 : 0;
                CHECK.same("offset(" + other + ")", x.offset(other), due);
                CHECK.same("keptOffset(" + other + ")", x.keptOffset(other), due);
            }
        }
    }

    private static void keptCountsAndSums() {
        CheckpointedStream x = new CheckpointedStream();
        for (int key = 0; key < 32; key++) {
            x.append(key % 4, key, key + 1);
        }
        x.pump(8);
        Streams.completeCheckpoint(x);
        for (int key = 0; key < 32; key++) {
            x.append(key % 4, key, 100);
        }
        x.pump(7);
        x.crash();
        for (int key = 0; key < 32; key++) {
            CHECK.same("count(" + key + ")", x.count(key), 1);
            CHECK.same("sum(" + key + ")", x.sum(key), key + 1);
            CHECK.same("keptSum(" + key + ")", x.keptSum(key), key + 1);
        }
    }

    private static void latestOfSome() {
        CheckpointedStream x = new CheckpointedStream();
        for (int number = 1; number <= 4; number++) {
            Streams.append(x, 1, 3, number, number);
            x.pump(number);
            Streams.completeCheckpoint(x);
            Streams.commitAll(x);
        }
        Streams.append(x, 1, 3, 50, 3);
        x.pump(2);
        CHECK.same("crash", x.crash(), 4);
        CHECK.same("offset", x.offset(1), 10);
        CHECK.same("count", x.count(3), 10);
        CHECK.same("sum", x.sum(3), 1 + 4 + 9 + 16);
    }

    private static void fromTheStart() {
        for (int workers = 1; workers <= 4; workers++) {
            int n = workers;
            CheckpointedStream x = Streams.withEventsTaken(n);
            CHECK.same("crash", x.crash(), 0);
            for (int partition = 0; partition < 4; partition++) {
                CHECK.same("offset", x.offset(partition), 0);
            }
            for (int key = 0; key < 32; key++) {
                CHECK.same("count", x.count(key), 0);
                CHECK.same("sum", x.sum(key), 0);
                CHECK.same("readSum", x.readSum(key), 0);
            }
            CHECK.sameAs("as if nothing had been read", () -> crashed(Streams.withEventsTaken(n)), () -> {
                CheckpointedStream y = Streams.ofWorkers(n);
                for (int worker = 0; worker < n; worker++) {
                    y.append(worker, Streams.keyOf(n, worker, 0), 10);
                    y.append(worker, Streams.keyOf(n, worker, 0), 20);
                    y.append(worker, Streams.keyOf(n, worker, 1), 5);
                }
                return y;
            });
        }
    }

    private static void partitionsAndSinkStay() {
        CheckpointedStream x = crashed(Streams.withCheckpointUnderWay());
        CHECK.same("events(0)", x.events(0), 3);
        CHECK.same("events(1)", x.events(1), 2);
        CHECK.same("events(2)", x.events(2), 2);
        CHECK.same("events(3)", x.events(3), 2);
        CHECK.same("eventAt(0, 0)", x.eventAt(0, 0), 1010);
        CHECK.same("eventAt(0, 2)", x.eventAt(0, 2), 1033);
        CHECK.same("eventAt(3, 1)", x.eventAt(3, 1), 6004);
        CHECK.same("committed", x.committed(), 3);
        CHECK.same("committedCount", x.committedCount(1), 2);
        CHECK.same("committedSum", x.committedSum(1), 30);
        CHECK.same("committedSum of another", x.committedSum(4), 7);
    }

    private static void workersStay() {
        for (int workers = 1; workers <= 4; workers++) {
            CHECK.same("workers", crashed(Streams.completeOf(workers)).workers(), workers);
        }
    }

    private static void keptStays() {
        CheckpointedStream x = Streams.withCommittedCheckpoint();
        for (int i = 0; i < 3; i++) {
            x.append(0, 1, 50 + i);
            x.pump(20);
            CHECK.same("offset ahead", x.offset(0), 2 + i);
            CHECK.same("crash", x.crash(), 1);
            CHECK.same("offset", x.offset(0), 1);
            CHECK.same("count", x.count(1), 2);
            CHECK.same("sum", x.sum(1), 30);
            CHECK.same("keptOffset", x.keptOffset(0), 1);
            CHECK.same("keptSum", x.keptSum(1), 30);
        }
    }

    private static void twice() {
        Check.Use crash = CheckpointedStream::crash;
        CHECK.changesNothing("crash", () -> crashed(Streams.withCheckpointUnderWay()), crash);
        CHECK.changesNothing("crash", () -> crashed(Streams.withCompleteCheckpoint()), crash);
        CHECK.changesNothing("crash", () -> crashed(Streams.withEventsTaken(4)), crash);
    }

    /** Crashes at each of some moments; in the end the sink has each event once. */
    private static void eachEventCountsOnce() {
        for (int moment = 0; moment < 24; moment++) {
            CheckpointedStream x = Streams.ofWorkers(1 + moment % 4);
            for (int i = 0; i < 32; i++) {
                x.append(i % 4, i, i + 1);
            }
            x.pump(1 + moment % 5);
            Streams.beginAndSend(x);
            for (int i = 0; i < moment; i++) {
                int worker = i / 4 % x.workers();
                int partition = i % 4;
                Check.thrownBy(() -> x.take(worker, partition));
            }
            x.crash();
            x.pump(20);
            Streams.completeCheckpoint(x);
            x.crash();
            CHECK.same("committed", x.committed(), 32);
            for (int key = 0; key < 32; key++) {
                CHECK.same("committedCount", x.committedCount(key), 1);
                CHECK.same("committedSum", x.committedSum(key), key + 1);
                CHECK.same("sum", x.sum(key), key + 1);
            }
        }
    }
}
