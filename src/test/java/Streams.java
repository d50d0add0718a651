/** Streams in states that several tests begin from, and calls that several tests make in a row. */
final class Streams {
    /** A group that belongs to each worker, by the number of workers and the worker. */
    private static final int[][] GROUPS = {{}, {0}, {0, 4}, {0, 3, 6}, {0, 2, 4, 6}};

    private Streams() {
    }

    static CheckpointedStream ofWorkers(int workers) {
        CheckpointedStream x = new CheckpointedStream();
        x.rescale(workers);
        return x;
    }

    /** A key of the worker, one of so many workers; there are four, numbered from 0. */
    static int keyOf(int workers, int worker, int which) {
        return GROUPS[workers][worker] + 8 * which;
    }

    /** Appends the same event so many times. */
    static void append(CheckpointedStream x, int partition, int key, int value, int times) {
        for (int i = 0; i < times; i++) {
            x.append(partition, key, value);
        }
    }

    static void read(CheckpointedStream x, int partition, int times) {
        for (int i = 0; i < times; i++) {
            x.read(partition);
        }
    }

    static void take(CheckpointedStream x, int worker, int partition, int times) {
        for (int i = 0; i < times; i++) {
            x.take(worker, partition);
        }
    }

    /** Puts so many events of the key into the channel to its worker; the values are 1, 2 and so on. */
    static void fill(CheckpointedStream x, int partition, int key, int items) {
        for (int i = 1; i <= items; i++) {
            x.append(partition, key, i);
            x.read(partition);
        }
    }

    static void sendAllBarriers(CheckpointedStream x) {
        for (int partition = 0; partition < 4; partition++) {
            x.sendBarrier(partition);
        }
    }

    /** Takes one item from each channel of the worker. */
    static void takeFromAll(CheckpointedStream x, int worker) {
        for (int partition = 0; partition < 4; partition++) {
            x.take(worker, partition);
        }
    }

    /** Begins a checkpoint and sends all its barriers. */
    static void beginAndSend(CheckpointedStream x) {
        x.beginCheckpoint();
        sendAllBarriers(x);
    }

    /** Makes a checkpoint complete; the channels must be empty. */
    static void completeCheckpoint(CheckpointedStream x) {
        beginAndSend(x);
        for (int worker = 0; worker < x.workers(); worker++) {
            takeFromAll(x, worker);
        }
    }

    static void commitAll(CheckpointedStream x) {
        for (int worker = 0; worker < x.workers(); worker++) {
            x.commit(worker);
        }
    }

    /** Each worker has taken events with the values 10 and 20 of its key 0, and one with 5 of its key 1. */
    static CheckpointedStream withEventsTaken(int workers) {
        CheckpointedStream x = ofWorkers(workers);
        for (int worker = 0; worker < workers; worker++) {
            x.append(worker, keyOf(workers, worker, 0), 10);
            x.append(worker, keyOf(workers, worker, 0), 20);
            x.append(worker, keyOf(workers, worker, 1), 5);
        }
        x.pump(3);
        return x;
    }

    /** The stream above; the checkpoint 1 is complete and nothing of it is committed. */
    static CheckpointedStream completeOf(int workers) {
        CheckpointedStream x = withEventsTaken(workers);
        completeCheckpoint(x);
        return x;
    }

    /**
     * Two workers; the checkpoint 1 is complete and nothing of it is committed. Key 1 of worker 0
     * has kept count 2 and sum 30, key 4 of worker 1 has kept count 1 and sum 7.
     */
    static CheckpointedStream withCompleteCheckpoint() {
        CheckpointedStream x = new CheckpointedStream();
        x.append(0, 1, 10);
        x.append(1, 1, 20);
        x.append(2, 4, 7);
        x.pump(1);
        completeCheckpoint(x);
        return x;
    }

    /** The stream above, its two transactions committed. */
    static CheckpointedStream withCommittedCheckpoint() {
        CheckpointedStream x = withCompleteCheckpoint();
        commitAll(x);
        return x;
    }

    /**
     * The stream above, with events behind the checkpoint and the checkpoint 2 under way: worker 0 has sealed its
     * transaction for it and has taken one event since, worker 1 has the barrier from partition 0 alone, an event
     * and a barrier are in its channel from partition 1, and events are in channels and not yet read.
     */
    static CheckpointedStream withCheckpointUnderWay() {
        CheckpointedStream x = withCommittedCheckpoint();
        x.append(0, 1, 50);
        x.append(1, 4, 60);
        x.append(2, 2, 70);
        x.append(0, 1, 33);
        x.append(3, 7, 5);
        x.append(3, 6, 4);
        x.read(0);
        x.take(0, 0);
        x.read(1);
        beginAndSend(x);
        takeFromAll(x, 0);
        x.read(2);
        x.take(0, 2);
        x.read(3);
        x.take(1, 0);
        return x;
    }
}
