/** Promise 5: take, and how a worker seals its transaction and a checkpoint becomes complete. */
final class TakeTest {
    private static final Check CHECK = new Check("TakeTest");

    /** All orders of the four channels. */
    private static final int[][] ORDERS = ordersOfFour();

    public static void main(String[] args) {
        CHECK.sentence("it takes the first item of the channel", TakeTest::takesTheFirst);
        CHECK.sentence("it returns the count of the key in the state then", TakeTest::returnsTheCount);
        CHECK.sentence("it adds 1 to the count and the value to the sum of the key", TakeTest::addsToTheState);
        CHECK.sentence("it adds to the open transaction of the worker too", TakeTest::addsToTheOpen);
        CHECK.sentence("the open transaction has the sums by key too", TakeTest::sumsOfTheTransaction);
        CHECK.sentence("the state goes on from what was kept, the transaction from 0", TakeTest::stateGoesOn);
        CHECK.sentence("it returns 0 for a barrier", TakeTest::barrierReturnsZero);
        CHECK.sentence("the channel from which the barrier was taken is blocked", TakeTest::blocksTheChannel);
        CHECK.sentence("other channels are not blocked by it", TakeTest::blocksNoOther);
        CHECK.sentence("it is blocked until the worker has the barrier from all four", TakeTest::untilAllFour);
        CHECK.sentence("the worker keeps its state as it is then", TakeTest::keepsTheState);
        CHECK.sentence("its open transaction is sealed then, an empty one is open", TakeTest::sealsTheOpen);
        CHECK.sentence("no channel of it is blocked any more", TakeTest::unblocksItsChannels);
        CHECK.sentence("the channels of another worker stay blocked", TakeTest::othersStayBlocked);
        CHECK.sentence("when all workers have sealed, it is complete and none is under way", TakeTest::completes);
        CHECK.sentence("until then it is under way, and nothing of it counts", TakeTest::notCompleteByFewer);
        CHECK.sentence("a barrier of an abandoned checkpoint has no effect", TakeTest::abandonedBarrier);
        CHECK.sentence("nor has it while another is under way", TakeTest::abandonedWhileAnother);
        CHECK.sentence("nor in a channel that is ahead of the barrier under way", TakeTest::abandonedSealsNothing);
        CHECK.sentence("the channel has no item: refused", TakeTest::noItem);
        CHECK.sentence("the channel has 1, 7 or 8 items: taken one by one", TakeTest::itemsOneByOne);
        CHECK.sentence("the channel is blocked: refused", TakeTest::blocked);
        CHECK.sentence("no such worker: IndexOutOfBoundsException", TakeTest::noSuchWorker);
        CHECK.sentence("no such partition: IndexOutOfBoundsException", TakeTest::noSuchPartition);
        CHECK.sentence("no such worker or partition decides first", TakeTest::noSuchFirst);
        CHECK.finish();
    }

    private static int[][] ordersOfFour() {
        int[][] orders = new int[24][];
        int made = 0;
        for (int code = 0; code < 256; code++) {
            int[] order = {code / 64, code / 16 % 4, code / 4 % 4, code % 4};
            if ((1 << order[0] | 1 << order[1] | 1 << order[2] | 1 << order[3]) == 15) {
                orders[made] = order;
                made++;
            }
        }
        return orders;
    }

    private static void takesTheFirst() {
        CheckpointedStream x = new CheckpointedStream();
        Streams.fill(x, 2, 5, 3);
        Streams.fill(x, 1, 5, 1);
        x.take(1, 2);
        CHECK.same("queued", x.queued(2, 1), 2);
        CHECK.same("first then", x.itemAt(2, 1, 0), 5002);
        CHECK.same("second then", x.itemAt(2, 1, 1), 5003);
        CHECK.same("sum", x.sum(5), 1);
        CHECK.same("the other channel", x.queued(1, 1), 1);
    }

    private static void returnsTheCount() {
        for (int workers = 1; workers <= 4; workers++) {
            for (int worker = 0; worker < workers; worker++) {
                CheckpointedStream x = Streams.ofWorkers(workers);
                int key = Streams.keyOf(workers, worker, 0);
                int other = Streams.keyOf(workers, worker, 3);
                x.append(0, key, 10);
                x.append(0, other, 20);
                x.append(0, key, 30);
                x.append(3, key, 40);
                Streams.read(x, 0, 3);
                x.read(3);
                CHECK.same("the first of the key", x.take(worker, 0), 1);
                CHECK.same("the first of another key", x.take(worker, 0), 1);
                CHECK.same("the second, from another partition", x.take(worker, 3), 2);
                CHECK.same("the third", x.take(worker, 0), 3);
            }
        }
    }

    private static void addsToTheState() {
        for (int key = 0; key < 32; key++) {
            CheckpointedStream x = new CheckpointedStream();
            x.append(0, key, 1);
            x.append(0, key, 100);
            Streams.read(x, 0, 2);
            Streams.take(x, x.workerOf(key), 0, 2);
            for (int other = 0; other < 32; other++) {
                CHECK.same("count(" + other + ")", x.count(other), other == key ? 2 : 0);
                CHECK.same("sum(" + other + ")", x.sum(other), other == key ? 101 : 0);
            }
        }
    }

    private static void addsToTheOpen() {
        CheckpointedStream x = Streams.ofWorkers(3);
        Streams.fill(x, 0, 3, 2);
        Streams.fill(x, 0, 11, 1);
        Streams.take(x, 1, 0, 3);
        CHECK.same("open(1)", x.open(1), 3);
        CHECK.same("open(0)", x.open(0), 0);
        CHECK.same("open(2)", x.open(2), 0);
        CHECK.same("committed", x.committed(), 0);
        CHECK.same("sealed", x.sealed(1), CheckpointedStream.NONE);
    }

    private static void sumsOfTheTransaction() {
        CheckpointedStream x = new CheckpointedStream();
        Streams.fill(x, 0, 3, 2);
        Streams.fill(x, 0, 11, 3);
        Streams.take(x, 0, 0, 5);
        Streams.completeCheckpoint(x);
        CHECK.same("commit", x.commit(0), 5);
        CHECK.same("committedCount(3)", x.committedCount(3), 2);
        CHECK.same("committedSum(3)", x.committedSum(3), 3);
        CHECK.same("committedCount(11)", x.committedCount(11), 3);
        CHECK.same("committedSum(11)", x.committedSum(11), 6);
    }

    private static void stateGoesOn() {
        CheckpointedStream x = Streams.withCommittedCheckpoint();
        x.crash();
        x.append(3, 1, 5);
        x.read(3);
        CHECK.same("take", x.take(0, 3), 3);
        CHECK.same("sum", x.sum(1), 35);
        CHECK.same("open", x.open(0), 1);
    }

    private static void barrierReturnsZero() {
        CheckpointedStream x = Streams.withEventsTaken(2);
        Streams.beginAndSend(x);
        for (int partition = 0; partition < 4; partition++) {
            CHECK.same("take", x.take(0, partition), 0);
        }
        for (int partition = 0; partition < 4; partition++) {
            CHECK.same("take of the last worker", x.take(1, partition), 0);
        }
    }

    private static void blocksTheChannel() {
        for (int worker = 0; worker < 4; worker++) {
            for (int partition = 0; partition < 4; partition++) {
                CheckpointedStream x = Streams.ofWorkers(4);
                Streams.beginAndSend(x);
                CHECK.no("ahead of it", x.isBlocked(partition, worker));
                x.take(worker, partition);
                CHECK.yes("behind it", x.isBlocked(partition, worker));
            }
        }
    }

    private static void blocksNoOther() {
        CheckpointedStream x = Streams.ofWorkers(4);
        Streams.beginAndSend(x);
        x.take(2, 1);
        for (int partition = 0; partition < 4; partition++) {
            for (int worker = 0; worker < 4; worker++) {
                CHECK.same("isBlocked", x.isBlocked(partition, worker) ? 1 : 0, partition == 1 && worker == 2 ? 1 : 0);
            }
        }
        CHECK.same("another channel of the worker", x.take(2, 3), 0);
        CHECK.same("a channel of another worker", x.take(0, 1), 0);
    }

    private static void untilAllFour() {
        for (int[] order : ORDERS) {
            CheckpointedStream x = new CheckpointedStream();
            Streams.beginAndSend(x);
            for (int taken = 0; taken < 4; taken++) {
                CHECK.same("sealed by " + taken, x.sealed(1), CheckpointedStream.NONE);
                CHECK.same("take", x.take(1, order[taken]), 0);
                for (int i = 0; i < 4; i++) {
                    boolean due = i <= taken && taken < 3;
                    CHECK.same("isBlocked", x.isBlocked(order[i], 1) ? 1 : 0, due ? 1 : 0);
                }
            }
            CHECK.same("sealed by four", x.sealed(1), 1);
        }
    }

    private static void keepsTheState() {
        CheckpointedStream x = new CheckpointedStream();
        Streams.fill(x, 0, 1, 2);
        x.beginCheckpoint();
        Streams.sendAllBarriers(x);
        Streams.fill(x, 0, 1, 3);
        Streams.fill(x, 1, 9, 1);
        Streams.take(x, 0, 0, 3);
        CHECK.same("blocked ahead of the third event", x.sum(1), 3);
        x.take(0, 1);
        x.take(0, 2);
        x.take(0, 3);
        Streams.take(x, 0, 0, 3);
        x.take(0, 1);
        CHECK.same("sum", x.sum(1), 9);
        Streams.takeFromAll(x, 1);
        CHECK.same("keptSum", x.keptSum(1), 3);
        CHECK.same("keptSum of another key", x.keptSum(9), 0);
        x.crash();
        CHECK.same("count kept", x.count(1), 2);
        CHECK.same("sum kept", x.sum(1), 3);
    }

    private static void sealsTheOpen() {
        CheckpointedStream x = Streams.withEventsTaken(3);
        Streams.beginAndSend(x);
        x.take(1, 0);
        x.take(1, 1);
        x.take(1, 3);
        CHECK.same("open by three", x.open(1), 3);
        x.take(1, 2);
        CHECK.same("sealed", x.sealed(1), 1);
        CHECK.same("open", x.open(1), 0);
        CHECK.same("the other's is open", x.open(0), 3);
        CHECK.same("the other has not sealed", x.sealed(0), CheckpointedStream.NONE);
        Streams.fill(x, 1, 3, 1);
        x.take(1, 1);
        CHECK.same("open goes on", x.open(1), 1);
        Streams.takeFromAll(x, 0);
        Streams.takeFromAll(x, 2);
        CHECK.same("what was sealed", x.commit(1), 3);
        CHECK.same("its sum", x.committedSum(3), 30);
        CHECK.same("open stays", x.open(1), 1);
    }

    private static void unblocksItsChannels() {
        CheckpointedStream x = new CheckpointedStream();
        Streams.beginAndSend(x);
        for (int partition = 0; partition < 4; partition++) {
            Streams.fill(x, partition, 0, 1);
        }
        Streams.takeFromAll(x, 0);
        for (int partition = 0; partition < 4; partition++) {
            CHECK.no("isBlocked", x.isBlocked(partition, 0));
            CHECK.same("take of what is behind", x.take(0, partition), partition + 1);
        }
    }

    private static void othersStayBlocked() {
        CheckpointedStream x = new CheckpointedStream();
        Streams.beginAndSend(x);
        x.take(1, 0);
        x.take(1, 2);
        Streams.takeFromAll(x, 0);
        CHECK.yes("isBlocked(0, 1)", x.isBlocked(0, 1));
        CHECK.no("isBlocked(1, 1)", x.isBlocked(1, 1));
        CHECK.yes("isBlocked(2, 1)", x.isBlocked(2, 1));
        CHECK.no("isBlocked(3, 1)", x.isBlocked(3, 1));
    }

    private static void completes() {
        for (int workers = 1; workers <= 4; workers++) {
            for (int first = 0; first < workers; first++) {
                CheckpointedStream x = Streams.withEventsTaken(workers);
                Streams.beginAndSend(x);
                for (int i = 0; i < workers; i++) {
                    CHECK.same("complete by " + i, x.complete(), CheckpointedStream.NONE);
                    CHECK.same("under way by " + i, x.underWay(), 1);
                    Streams.takeFromAll(x, (first + i) % workers);
                }
                CHECK.same("complete by all of " + workers, x.complete(), 1);
                CHECK.same("none under way", x.underWay(), CheckpointedStream.NONE);
                keptOfAll(x, workers);
            }
        }
    }

    private static void keptOfAll(CheckpointedStream x, int workers) {
        for (int worker = 0; worker < workers; worker++) {
            CHECK.same("sealed(" + worker + ")", x.sealed(worker), 1);
            CHECK.same("keptOffset", x.keptOffset(worker), 3);
            CHECK.same("keptSum", x.keptSum(Streams.keyOf(workers, worker, 0)), 30);
            CHECK.same("keptSum of the other key", x.keptSum(Streams.keyOf(workers, worker, 1)), 5);
        }
    }

    private static void notCompleteByFewer() {
        for (int missing = 0; missing < 4; missing++) {
            CheckpointedStream x = Streams.withEventsTaken(4);
            Streams.beginAndSend(x);
            for (int worker = 0; worker < 4; worker++) {
                if (worker != missing) {
                    Streams.takeFromAll(x, worker);
                }
            }
            for (int partition = 0; partition < 3; partition++) {
                x.take(missing, partition);
            }
            CHECK.same("complete", x.complete(), CheckpointedStream.NONE);
            CHECK.same("underWay", x.underWay(), 1);
            for (int i = 0; i < 4; i++) {
                CHECK.same("keptOffset", x.keptOffset(i), 0);
                CHECK.same("keptSum", x.keptSum(Streams.keyOf(4, i, 0)), 0);
            }
            CHECK.same("crash", x.crash(), 0);
            CHECK.same("committed", x.committed(), 0);
        }
    }

    private static CheckpointedStream withAbandonedBarriers() {
        CheckpointedStream x = Streams.withEventsTaken(2);
        Streams.beginAndSend(x);
        x.abandon();
        return x;
    }

    private static CheckpointedStream abandonedWithoutBarriers() {
        CheckpointedStream x = Streams.withEventsTaken(2);
        x.beginCheckpoint();
        x.abandon();
        return x;
    }

    private static void abandonedBarrier() {
        for (int partition = 0; partition < 4; partition++) {
            for (int worker = 0; worker < 2; worker++) {
                CheckpointedStream x = withAbandonedBarriers();
                CHECK.same("take", x.take(worker, partition), 0);
                CHECK.no("isBlocked", x.isBlocked(partition, worker));
                CHECK.same("queued", x.queued(partition, worker), 0);
            }
        }
        Check.Make taken = () -> {
            CheckpointedStream x = withAbandonedBarriers();
            Streams.takeFromAll(x, 0);
            Streams.takeFromAll(x, 1);
            return x;
        };
        CheckpointedStream all = taken.make();
        CHECK.same("sealed", all.sealed(0), CheckpointedStream.NONE);
        CHECK.same("complete", all.complete(), CheckpointedStream.NONE);
        CHECK.same("open", all.open(0), 3);
        CHECK.same("keptSum", all.keptSum(0), 0);
        CHECK.sameAs("as if there had been no barriers", taken, TakeTest::abandonedWithoutBarriers);
    }

    private static void abandonedWhileAnother() {
        CHECK.sameAs("as if there had been no barriers", () -> {
            CheckpointedStream x = withAbandonedBarriers();
            x.beginCheckpoint();
            x.sendBarrier(1);
            Streams.takeFromAll(x, 0);
            Streams.takeFromAll(x, 1);
            return x;
        }, () -> {
            CheckpointedStream x = abandonedWithoutBarriers();
            x.beginCheckpoint();
            x.sendBarrier(1);
            return x;
        });
    }

    private static void abandonedSealsNothing() {
        CheckpointedStream x = new CheckpointedStream();
        Streams.beginAndSend(x);
        x.abandon();
        Streams.beginAndSend(x);
        Streams.takeFromAll(x, 0);
        CHECK.same("four abandoned barriers", x.sealed(0), CheckpointedStream.NONE);
        Streams.take(x, 0, 0, 1);
        Streams.take(x, 0, 1, 1);
        Streams.take(x, 0, 2, 1);
        CHECK.same("three barriers under way", x.sealed(0), CheckpointedStream.NONE);
        CHECK.same("the fourth", x.take(0, 3), 0);
        CHECK.same("sealed for the second", x.sealed(0), 2);
    }

    private static void noItem() {
        for (int workers = 1; workers <= 4; workers++) {
            for (int worker = 0; worker < workers; worker++) {
                int n = workers;
                int w = worker;
                CHECK.refused("take of " + w, Check.NOT_NOW, () -> Streams.ofWorkers(n), x -> x.take(w, 0));
                CHECK.refused("take of " + w, Check.NOT_NOW, () -> Streams.ofWorkers(n), x -> x.take(w, 3));
                CHECK.refused("items elsewhere", Check.NOT_NOW, () -> {
                    CheckpointedStream x = Streams.ofWorkers(n);
                    Streams.fill(x, 1, Streams.keyOf(n, w, 0), 1);
                    Streams.fill(x, 2, Streams.keyOf(n, (w + 1) % n, 0), n > 1 ? 1 : 0);
                    return x;
                }, x -> x.take(w, 2));
                CHECK.refused("all is taken", Check.NOT_NOW, () -> Streams.withEventsTaken(n), x -> x.take(w, w));
            }
        }
    }

    private static void itemsOneByOne() {
        for (int items : new int[] {1, 7, 8}) {
            for (int partition = 0; partition < 4; partition++) {
                for (int worker = 0; worker < 4; worker++) {
                    takesAll(items, partition, worker);
                }
            }
        }
    }

    private static void takesAll(int items, int partition, int worker) {
        CheckpointedStream x = Streams.ofWorkers(4);
        int key = Streams.keyOf(4, worker, 2);
        Streams.fill(x, partition, key, items);
        for (int i = 1; i <= items; i++) {
            CHECK.same("its first", x.itemAt(partition, worker, 0), 1000 * key + i);
            CHECK.same("take", x.take(worker, partition), i);
            CHECK.same("queued", x.queued(partition, worker), items - i);
        }
        CHECK.throwsIt("take of none", Check.NOT_NOW, () -> x.take(worker, partition));
    }

    private static void blocked() {
        for (int partition = 0; partition < 4; partition++) {
            for (int worker = 0; worker < 2; worker++) {
                int p = partition;
                int w = worker;
                Check.Make blocked = () -> {
                    CheckpointedStream x = new CheckpointedStream();
                    x.beginCheckpoint();
                    x.sendBarrier(p);
                    x.take(w, p);
                    return x;
                };
                CHECK.refused("blocked without an item", Check.NOT_NOW, blocked, x -> x.take(w, p));
                CHECK.refused("blocked with an item", Check.NOT_NOW, () -> {
                    CheckpointedStream x = blocked.make();
                    Streams.fill(x, p, Streams.keyOf(2, w, 0), 1);
                    return x;
                }, x -> x.take(w, p));
            }
        }
    }

    private static void noSuchWorker() {
        for (int workers = 1; workers <= 4; workers++) {
            int n = workers;
            CHECK.takenFromTo("worker", 0, n - 1, Check.NO_SUCH, () -> {
                CheckpointedStream x = Streams.ofWorkers(n);
                Streams.beginAndSend(x);
                return x;
            }, (x, worker) -> x.take(worker, 2));
        }
    }

    private static void noSuchPartition() {
        CHECK.takenFromTo("partition", 0, 3, Check.NO_SUCH, () -> {
            CheckpointedStream x = Streams.withEventsTaken(3);
            Streams.beginAndSend(x);
            return x;
        }, (x, partition) -> x.take(2, partition));
    }

    private static void noSuchFirst() {
        CHECK.refused("no such worker, no item", Check.NO_SUCH, CheckpointedStream::new, x -> x.take(2, 0));
        CHECK.refused("no such worker, no item", Check.NO_SUCH, CheckpointedStream::new, x -> x.take(-1, 3));
        CHECK.refused("no such partition, no item", Check.NO_SUCH, CheckpointedStream::new, x -> x.take(0, 4));
        CHECK.refused("no such partition, no item", Check.NO_SUCH, CheckpointedStream::new, x -> x.take(1, -1));
        CHECK.refused("neither", Check.NO_SUCH, CheckpointedStream::new, x -> x.take(2, 4));
        CHECK.refused("a worker that is gone", Check.NO_SUCH, () -> {
            CheckpointedStream x = Streams.withEventsTaken(4);
            x.rescale(3);
            x.pump(1);
            return x;
        }, x -> x.take(3, 0));
    }
}
