/** All that the face shows of a stream, as a text. */
final class Snapshot {
    private Snapshot() {
    }

    /** It looks at two streams made alike, since one is good for 512 calls alone. */
    static String of(Check.Make make) {
        StringBuilder text = new StringBuilder();
        appendAllButKeys(text, make.make());
        appendKeys(text, make.make());
        return text.toString();
    }

    private static void appendAllButKeys(StringBuilder text, CheckpointedStream x) {
        text.append("workers ").append(x.workers()).append(" underWay ").append(x.underWay())
                .append(" complete ").append(x.complete()).append(" committed ").append(x.committed());
        for (int partition = 0; partition < 4; partition++) {
            appendPartition(text, x, partition);
        }
        for (int worker = 0; worker < x.workers(); worker++) {
            appendWorker(text, x, worker);
        }
    }

    private static void appendPartition(StringBuilder text, CheckpointedStream x, int partition) {
        text.append("\n  p").append(partition).append(" offset ").append(x.offset(partition))
                .append(" kept ").append(x.keptOffset(partition))
                .append(x.hasSent(partition) ? " sent" : "").append(" events");
        int events = x.events(partition);
        for (int offset = 0; offset < events; offset++) {
            text.append(' ').append(x.eventAt(partition, offset));
        }
    }

    private static void appendWorker(StringBuilder text, CheckpointedStream x, int worker) {
        text.append("\n  w").append(worker).append(" groups ").append(x.groupsOf(worker))
                .append(" open ").append(x.open(worker)).append(" sealed ").append(x.sealed(worker));
        for (int partition = 0; partition < 4; partition++) {
            text.append(" from p").append(partition).append(x.isBlocked(partition, worker) ? " blocked [" : " [");
            int queued = x.queued(partition, worker);
            for (int place = 0; place < queued; place++) {
                text.append(' ').append(x.itemAt(partition, worker, place));
            }
            text.append(" ]");
        }
    }

    private static void appendKeys(StringBuilder text, CheckpointedStream x) {
        for (int key = 0; key < 32; key++) {
            text.append("\n  k").append(key).append(" of ").append(x.workerOf(key))
                    .append(" state ").append(x.count(key)).append(' ').append(x.sum(key))
                    .append(" kept ").append(x.keptSum(key))
                    .append(" sink ").append(x.committedCount(key)).append(' ').append(x.committedSum(key))
                    .append(" read ").append(x.readSum(key)).append(" queued ").append(x.sumInChannels(key));
        }
    }
}
