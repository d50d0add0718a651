/** Streams in states that several tests begin from. */
final class Streams {
    private Streams() {
    }

    /** Appends the same event so many times. */
    static void append(CheckpointedStream x, int partition, int key, int value, int times) {
        for (int i = 0; i < times; i++) {
            x.append(partition, key, value);
        }
    }

    static void read(CheckpointedStream x, int partition, int times) {
        for (int i = 0; i < times; i++) {
            x.read(partition);
        }
    }

    static void take(CheckpointedStream x, int worker, int partition, int times) {
        for (int i = 0; i < times; i++) {
            x.take(worker, partition);
        }
    }

    static void sendAllBarriers(CheckpointedStream x) {
        for (int partition = 0; partition < 4; partition++) {
            x.sendBarrier(partition);
        }
    }

    /** Takes one item from each channel of the worker. */
    static void takeFromAll(CheckpointedStream x, int worker) {
        for (int partition = 0; partition < 4; partition++) {
            x.take(worker, partition);
        }
    }

    /**
     * Two workers; the checkpoint 1 is complete and nothing of it is committed. Key 1 of worker 0
     * has kept count 2 and sum 30, key 4 of worker 1 has kept count 1 and sum 7.
     */
    static CheckpointedStream withCompleteCheckpoint() {
        CheckpointedStream x = new CheckpointedStream();
        x.append(0, 1, 10);
        x.append(1, 1, 20);
        x.append(2, 4, 7);
        x.pump(1);
        x.beginCheckpoint();
        sendAllBarriers(x);
        takeFromAll(x, 0);
        takeFromAll(x, 1);
        return x;
    }

    /** The stream above, its two transactions committed. */
    static CheckpointedStream withCommittedCheckpoint() {
        CheckpointedStream x = withCompleteCheckpoint();
        x.commit(0);
        x.commit(1);
        return x;
    }
}
