/** What holds for each call that looks and changes nothing, on streams in several states. */
final class Looks {
    private static final Check.Make[] STATES = {
        CheckpointedStream::new,
        () -> Streams.withEventsTaken(3),
        Streams::withCompleteCheckpoint,
        Streams::withCheckpointUnderWay,
    };

    private final Check check;

    Looks(Check check) {
        this.check = check;
    }

    void changesNothing(Check.Use look) {
        for (Check.Make state : STATES) {
            check.changesNothing("a look", state, look);
        }
    }

    void noSuchPartition(Check.UseOf look) {
        for (Check.Make state : STATES) {
            check.takenFromTo("partition", 0, 3, Check.NO_SUCH, state, look);
        }
    }

    void noSuchKey(Check.UseOf look) {
        for (Check.Make state : STATES) {
            check.takenFromTo("key", 0, 31, Check.NO_SUCH, state, look);
        }
    }

    void noSuchWorker(Check.UseOf look) {
        for (int workers = 1; workers <= 4; workers++) {
            int n = workers;
            check.takenFromTo("worker of " + n, 0, n - 1, Check.NO_SUCH, () -> Streams.withEventsTaken(n), look);
            check.refused("a worker that is gone, of " + n, Check.NO_SUCH, () -> {
                CheckpointedStream x = Streams.withEventsTaken(4);
                x.rescale(n);
                return x;
            }, x -> look.on(x, n));
        }
    }
}
