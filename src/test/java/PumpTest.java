/** Promise 6: pump. */
final class PumpTest {
    private static final Check CHECK = new Check("PumpTest");

    public static void main(String[] args) {
        CHECK.sentence("it returns how many events were read and items taken, together", PumpTest::countsBoth);
        CHECK.sentence("with nothing to do it returns 0", PumpTest::countsNothing);
        CHECK.sentence("in a round each reader reads once", PumpTest::eachReaderOnce);
        CHECK.sentence("in a round one item is taken from each channel", PumpTest::oneItemFromEach);
        CHECK.sentence("what is read in a round is taken in it", PumpTest::readersFirst);
        CHECK.sentence("a reader with no event is passed over", PumpTest::readerWithoutEvent);
        CHECK.sentence("a reader whose channel has 8 items is passed over", PumpTest::readerAtAFullChannel);
        CHECK.sentence("a reader whose channel has 7 items reads", PumpTest::readerAtSevenItems);
        CHECK.sentence("a channel with no item is passed over", PumpTest::emptyChannel);
        CHECK.sentence("a blocked channel is passed over", PumpTest::blockedChannel);
        CHECK.sentence("a channel that is free when it is asked gives, by rising partitions", PumpTest::freeWhenAsked);
        CHECK.sentence("a barrier is taken as an item, and completes", PumpTest::takesBarriers);
        CHECK.sentence("a barrier of an abandoned checkpoint is taken as an item", PumpTest::takesAbandonedBarriers);
        CHECK.sentence("barriers are not sent by it", PumpTest::sendsNoBarriers);
        CHECK.sentence("transactions are not committed by it", PumpTest::commitsNothing);
        CHECK.sentence("it does 1 round, or 20", PumpTest::oneOrTwentyRounds);
        CHECK.sentence("some rounds are so many times one", PumpTest::roundsAddUp);
        CHECK.sentence("a round is the calls that it stands for", PumpTest::asSingleCalls);
        CHECK.sentence("all workers take, 1 to 4 of them", PumpTest::allWorkersTake);
        CHECK.sentence("rounds out of range: IllegalArgumentException", PumpTest::roundsOutOfRange);
        CHECK.finish();
    }

    private static void countsBoth() {
        CheckpointedStream x = new CheckpointedStream();
        x.append(0, 0, 1);
        x.append(1, 4, 1);
        x.append(1, 5, 1);
        CHECK.same("two read, two taken", x.pump(1), 4);
        CHECK.same("one read, one taken", x.pump(1), 2);
        Streams.fill(x, 2, 0, 3);
        CHECK.same("none read, one taken", x.pump(1), 1);
        x.beginCheckpoint();
        x.sendBarrier(3);
        x.pump(20);
        x.append(3, 0, 1);
        CHECK.same("one read, none taken", x.pump(1), 1);
    }

    private static void countsNothing() {
        CheckpointedStream x = new CheckpointedStream();
        CHECK.same("pump(1)", x.pump(1), 0);
        CHECK.same("pump(20)", x.pump(20), 0);
        CHECK.same("all is read and taken", Streams.withEventsTaken(4).pump(20), 0);
    }

    private static void eachReaderOnce() {
        CheckpointedStream x = new CheckpointedStream();
        for (int partition = 0; partition < 4; partition++) {
            Streams.append(x, partition, 2 * partition, 1, 3);
        }
        for (int round = 1; round <= 3; round++) {
            CHECK.same("pump", x.pump(1), 8);
            for (int partition = 0; partition < 4; partition++) {
                CHECK.same("offset(" + partition + ")", x.offset(partition), round);
            }
        }
    }

    private static void oneItemFromEach() {
        CheckpointedStream x = Streams.ofWorkers(4);
        for (int partition = 0; partition < 4; partition++) {
            for (int worker = 0; worker < 4; worker++) {
                Streams.fill(x, partition, Streams.keyOf(4, worker, partition), 3);
            }
        }
        for (int round = 1; round <= 3; round++) {
            CHECK.same("pump", x.pump(1), 16);
            for (int partition = 0; partition < 4; partition++) {
                for (int worker = 0; worker < 4; worker++) {
                    CHECK.same("queued", x.queued(partition, worker), 3 - round);
                    CHECK.same("count", x.count(Streams.keyOf(4, worker, partition)), round);
                }
            }
        }
    }

    private static void readersFirst() {
        CheckpointedStream x = new CheckpointedStream();
        x.append(3, 4, 9);
        CHECK.same("pump", x.pump(1), 2);
        CHECK.same("queued", x.queued(3, 1), 0);
        CHECK.same("sum", x.sum(4), 9);
    }

    private static void readerWithoutEvent() {
        CheckpointedStream x = new CheckpointedStream();
        x.append(1, 0, 1);
        x.append(3, 0, 1);
        CHECK.same("pump", x.pump(1), 4);
        CHECK.same("offset(0)", x.offset(0), 0);
        CHECK.same("offset(1)", x.offset(1), 1);
        CHECK.same("offset(2)", x.offset(2), 0);
        CHECK.same("offset(3)", x.offset(3), 1);
    }

    private static void readerAtAFullChannel() {
        CheckpointedStream x = new CheckpointedStream();
        Streams.fill(x, 1, 0, 8);
        x.append(1, 0, 99);
        x.append(2, 0, 1);
        CHECK.same("reader 2 alone; one item from each of two channels", x.pump(1), 3);
        CHECK.same("offset(1)", x.offset(1), 8);
        CHECK.same("queued", x.queued(1, 0), 7);
        CHECK.same("there is room in the next round", x.pump(1), 2);
        CHECK.same("offset(1) then", x.offset(1), 9);
        CHECK.same("queued then", x.queued(1, 0), 7);
    }

    private static void readerAtSevenItems() {
        CheckpointedStream x = new CheckpointedStream();
        Streams.fill(x, 0, 0, 7);
        x.append(0, 0, 99);
        CHECK.same("pump", x.pump(1), 2);
        CHECK.same("offset", x.offset(0), 8);
        CHECK.same("the last item", x.itemAt(0, 0, 6), 99);
    }

    private static void emptyChannel() {
        CheckpointedStream x = new CheckpointedStream();
        Streams.fill(x, 3, 4, 2);
        CHECK.same("pump", x.pump(1), 1);
        CHECK.same("pump", x.pump(5), 1);
        CHECK.same("count", x.count(4), 2);
    }

    private static void blockedChannel() {
        CheckpointedStream x = new CheckpointedStream();
        x.beginCheckpoint();
        x.sendBarrier(0);
        x.sendBarrier(1);
        x.sendBarrier(2);
        Streams.fill(x, 0, 0, 2);
        Streams.fill(x, 3, 0, 2);
        CHECK.same("six barriers, two events", x.pump(20), 8);
        CHECK.yes("isBlocked", x.isBlocked(0, 0));
        CHECK.same("its events wait", x.queued(0, 0), 2);
        CHECK.same("the free channel's are taken", x.queued(3, 0), 0);
        x.sendBarrier(3);
        CHECK.same("two barriers, two events", x.pump(20), 4);
        CHECK.same("complete", x.complete(), 1);
    }

    /**
     * The barrier from one partition is the last one for worker 0. Channels behind it are asked when they are free
     * again, channels ahead of it were asked while they were blocked.
     */
    private static void freeWhenAsked() {
        for (int last = 0; last < 4; last++) {
            CheckpointedStream x = new CheckpointedStream();
            Streams.beginAndSend(x);
            for (int partition = 0; partition < 4; partition++) {
                Streams.fill(x, partition, 0, 1);
                if (partition != last) {
                    x.take(0, partition);
                }
            }
            int behind = 3 - last;
            CHECK.same("last is " + last, x.pump(1), 1 + behind + 4);
            for (int partition = 0; partition < 4; partition++) {
                CHECK.same("queued(" + partition + ")", x.queued(partition, 0), partition > last ? 0 : 1);
            }
        }
    }

    private static void takesBarriers() {
        for (int workers = 1; workers <= 4; workers++) {
            CheckpointedStream x = Streams.ofWorkers(workers);
            Streams.beginAndSend(x);
            CHECK.same("pump", x.pump(1), 4 * workers);
            CHECK.same("complete", x.complete(), 1);
            CHECK.same("underWay", x.underWay(), CheckpointedStream.NONE);
        }
        CheckpointedStream late = new CheckpointedStream();
        Streams.fill(late, 0, 4, 1);
        Streams.beginAndSend(late);
        CHECK.same("one event, seven barriers", late.pump(1), 8);
        CHECK.same("not complete", late.complete(), CheckpointedStream.NONE);
        CHECK.same("worker 0 has sealed", late.sealed(0), 1);
        CHECK.same("the last barrier", late.pump(1), 1);
        CHECK.same("complete then", late.complete(), 1);
    }

    private static void takesAbandonedBarriers() {
        CheckpointedStream x = new CheckpointedStream();
        Streams.beginAndSend(x);
        x.abandon();
        CHECK.same("pump", x.pump(20), 8);
        CHECK.no("isBlocked", x.isBlocked(0, 0));
        CHECK.same("complete", x.complete(), CheckpointedStream.NONE);
    }

    private static void sendsNoBarriers() {
        CheckpointedStream x = new CheckpointedStream();
        x.append(0, 0, 1);
        x.beginCheckpoint();
        CHECK.same("pump", x.pump(20), 2);
        for (int partition = 0; partition < 4; partition++) {
            CHECK.no("hasSent(" + partition + ")", x.hasSent(partition));
            CHECK.same("queued", x.queued(partition, 0) + x.queued(partition, 1), 0);
        }
        CHECK.same("underWay", x.underWay(), 1);
    }

    private static void commitsNothing() {
        CheckpointedStream x = Streams.withCompleteCheckpoint();
        x.append(0, 0, 1);
        x.pump(20);
        CHECK.same("committed", x.committed(), 0);
        CHECK.same("sealed(0)", x.sealed(0), 1);
        CHECK.same("sealed(1)", x.sealed(1), 1);
    }

    private static void oneOrTwentyRounds() {
        for (int rounds = 1; rounds <= 20; rounds++) {
            CheckpointedStream x = new CheckpointedStream();
            Streams.append(x, 2, 5, 1, 25);
            CHECK.same("pump(" + rounds + ")", x.pump(rounds), 2 * rounds);
            CHECK.same("offset", x.offset(2), rounds);
            CHECK.same("count", x.count(5), rounds);
        }
    }

    private static CheckpointedStream mixed() {
        CheckpointedStream x = Streams.withCheckpointUnderWay();
        Streams.fill(x, 2, 4, 7);
        Streams.append(x, 2, 0, 3, 4);
        Streams.append(x, 2, 4, 3, 4);
        Streams.append(x, 1, 6, 2, 6);
        return x;
    }

    private static void roundsAddUp() {
        for (int rounds = 1; rounds <= 20; rounds++) {
            int n = rounds;
            CheckpointedStream x = mixed();
            int done = 0;
            for (int i = 0; i < n; i++) {
                done += x.pump(1);
            }
            CHECK.same("pump(" + n + ")", mixed().pump(n), done);
            CHECK.sameAs("pump(" + n + ")", () -> {
                CheckpointedStream y = mixed();
                y.pump(n);
                return y;
            }, () -> {
                CheckpointedStream y = mixed();
                for (int i = 0; i < n; i++) {
                    y.pump(1);
                }
                return y;
            });
        }
    }

    /** Reads and takes by single calls what a round does. */
    private static int goRound(CheckpointedStream x) {
        int done = 0;
        for (int partition = 0; partition < 4; partition++) {
            int p = partition;
            done += Check.thrownBy(() -> x.read(p)).equals("nothing") ? 1 : 0;
        }
        for (int worker = 0; worker < 2; worker++) {
            for (int partition = 0; partition < 4; partition++) {
                int p = partition;
                int w = worker;
                done += Check.thrownBy(() -> x.take(w, p)).equals("nothing") ? 1 : 0;
            }
        }
        return done;
    }

    private static void asSingleCalls() {
        CheckpointedStream one = mixed();
        CheckpointedStream other = mixed();
        for (int round = 0; round < 14; round++) {
            CHECK.same("round " + round, one.pump(1), goRound(other));
        }
        CHECK.sameAs("three rounds", () -> {
            CheckpointedStream x = mixed();
            x.pump(3);
            return x;
        }, () -> {
            CheckpointedStream x = mixed();
            for (int i = 0; i < 3; i++) {
                goRound(x);
            }
            return x;
        });
    }

    private static void allWorkersTake() {
        for (int workers = 1; workers <= 4; workers++) {
            CheckpointedStream x = Streams.ofWorkers(workers);
            for (int worker = 0; worker < workers; worker++) {
                Streams.fill(x, 3 - worker, Streams.keyOf(workers, worker, 2), 2);
            }
            CHECK.same("pump", x.pump(1), workers);
            for (int worker = 0; worker < workers; worker++) {
                CHECK.same("open(" + worker + ")", x.open(worker), 1);
            }
        }
    }

    private static void roundsOutOfRange() {
        CHECK.takenFromTo("rounds", 1, 20, Check.OUT_OF_RANGE, PumpTest::mixed, CheckpointedStream::pump);
        CHECK.takenFromTo("rounds", 1, 20, Check.OUT_OF_RANGE, CheckpointedStream::new, CheckpointedStream::pump);
    }
}
