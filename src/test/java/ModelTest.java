import java.util.function.IntSupplier;

/** Long runs of calls, each answer beside the one of the model; the same runs each time. */
final class ModelTest {
    private static final int RUNS = 400;
    private static final int CALLS = 512;

    private static final Check CHECK = new Check("ModelTest");

    private final Numbers numbers;
    private final CheckpointedStream x = new CheckpointedStream();
    private final Model model = new Model();
    private final int run;
    /** Some runs crash often, some nearly never, so that short and long histories come up. */
    private final int crashes;
    private final int keys;

    private ModelTest(int run) {
        this.run = run;
        this.numbers = new Numbers(run);
        this.crashes = 1 + run % 4;
        this.keys = run % 3 == 0 ? 4 : 32;
    }

    public static void main(String[] args) {
        int completed = 0;
        int abandonedSealed = 0;
        int committedByStart = 0;
        int lostSealed = 0;
        for (int run = 0; run < RUNS; run++) {
            ModelTest test = new ModelTest(run);
            test.makeCalls();
            completed += test.model.completed;
            abandonedSealed += test.model.abandonedSealed;
            committedByStart += test.model.committedByStart;
            lostSealed += test.model.lostSealed;
        }
        System.out.println("ModelTest: completed " + completed + ", sealed and abandoned " + abandonedSealed
                + ", sealed and committed by starting again " + committedByStart
                + ", sealed and lost " + lostSealed);
        CHECK.yes("checkpoints were completed", completed > RUNS);
        CHECK.yes("sealed transactions were abandoned", abandonedSealed > RUNS / 8);
        CHECK.yes("sealed transactions were committed by starting again", committedByStart > RUNS / 8);
        CHECK.yes("sealed transactions were lost", lostSealed > RUNS / 8);
        CHECK.finish();
    }

    private void makeCalls() {
        for (int call = 0; call < CALLS; call++) {
            boolean refused = makeCall(chooseCall());
            // To look at all is dear; a refused call must not change anything, so more of these are looked at.
            if (numbers.below(refused ? 8 : 16) == 0) {
                lookAtAll();
            }
        }
        lookAtAll();
    }

    /** That a checkpoint ends while only some workers have sealed is rare by itself. */
    private int chooseCall() {
        return hasSealedUnderWay() && numbers.below(5) == 0 ? 95 + numbers.below(5) : numbers.below(100);
    }

    private boolean hasSealedUnderWay() {
        boolean anySealed = false;
        for (int worker = 0; worker < model.workers(); worker++) {
            anySealed |= model.sealed(worker) != -1;
        }
        return anySealed && model.underWay() != -1;
    }

    private boolean makeCall(int choice) {
        int partition = wrongNowAndThen(4);
        int worker = wrongNowAndThen(model.workers());
        if (choice < 28) {
            int key = numbers.below(40) == 0 ? numbers.below(36) - 2 : numbers.below(keys);
            int value = 1 + wrongNowAndThen(100);
            return both("append", () -> x.append(partition, key, value), () -> model.append(partition, key, value));
        } else if (choice < 45) {
            return both("read", () -> x.read(partition), () -> model.read(partition));
        } else if (choice < 63) {
            return both("take", () -> x.take(worker, partition), () -> model.take(worker, partition));
        } else if (choice < 77) {
            return both("sendBarrier", () -> x.sendBarrier(partition), () -> model.sendBarrier(partition));
        } else if (choice < 84) {
            int rounds = numbers.below(10) == 0 ? numbers.below(24) - 1 : 1 + numbers.below(2);
            return both("pump", () -> x.pump(rounds), () -> model.pump(rounds));
        } else if (choice < 91) {
            return both("commit", () -> x.commit(worker), () -> model.commit(worker));
        } else if (choice < 95) {
            return both("beginCheckpoint", x::beginCheckpoint, model::beginCheckpoint);
        } else if (numbers.below(8) >= crashes) {
            return lookOnce(partition, worker);
        } else if (choice < 97) {
            return both("abandon", x::abandon, model::abandon);
        } else if (choice < 98) {
            return both("crash", x::crash, model::crash);
        }
        int workers = 1 + wrongNowAndThen(4);
        return both("rescale", () -> x.rescale(workers), () -> model.rescale(workers));
    }

    /** A look with an argument that may be wrong. */
    private boolean lookOnce(int partition, int worker) {
        int place = numbers.below(10) - 1;
        int key = wrongNowAndThen(32);
        switch (numbers.below(8)) {
            case 0:
                return both("itemAt", () -> x.itemAt(partition, worker, place),
                        () -> model.itemAt(partition, worker, place));
            case 1:
                return both("eventAt", () -> x.eventAt(partition, place), () -> model.eventAt(partition, place));
            case 2:
                return both("queued", () -> x.queued(partition, worker), () -> model.queued(partition, worker));
            case 3:
                return both("isBlocked", () -> x.isBlocked(partition, worker) ? 1 : 0,
                        () -> model.isBlocked(partition, worker) ? 1 : 0);
            case 4:
                return both("groupsOf", () -> x.groupsOf(worker), () -> model.groupsOf(worker));
            case 5:
                return both("sumInChannels", () -> x.sumInChannels(key), () -> model.sumInChannels(key));
            case 6:
                return both("readSum", () -> x.readSum(key), () -> model.readSum(key));
            default:
                return both("keptSum", () -> x.keptSum(key), () -> model.keptSum(key));
        }
    }

    private int wrongNowAndThen(int size) {
        return numbers.below(40) == 0 ? numbers.below(size + 4) - 2 : numbers.below(size);
    }

    private boolean both(String call, IntSupplier got, IntSupplier due) {
        String answer = answerOf(due);
        CHECK.sameText("run " + run + " " + call, answerOf(got), answer);
        return answer.endsWith("Exception");
    }

    private static String answerOf(IntSupplier call) {
        try {
            return Integer.toString(call.getAsInt());
        } catch (RuntimeException e) {
            return e.getClass().getSimpleName();
        }
    }

    private void lookAtAll() {
        same("workers", x.workers(), model.workers());
        same("underWay", x.underWay(), model.underWay());
        same("complete", x.complete(), model.complete());
        same("committed", x.committed(), model.committed());
        for (int partition = 0; partition < 4; partition++) {
            lookAtPartition(partition);
        }
        for (int worker = 0; worker < model.workers(); worker++) {
            lookAtWorker(worker);
        }
        for (int key = 0; key < 32; key++) {
            lookAtKey(key);
        }
    }

    private void lookAtPartition(int partition) {
        same("events", x.events(partition), model.events(partition));
        same("offset", x.offset(partition), model.offset(partition));
        same("keptOffset", x.keptOffset(partition), model.keptOffset(partition));
        same("hasSent", x.hasSent(partition) ? 1 : 0, model.hasSent(partition) ? 1 : 0);
        for (int offset = 0; offset < model.events(partition); offset++) {
            same("eventAt", x.eventAt(partition, offset), model.eventAt(partition, offset));
        }
    }

    private void lookAtWorker(int worker) {
        same("groupsOf", x.groupsOf(worker), model.groupsOf(worker));
        same("open", x.open(worker), model.open(worker));
        same("sealed", x.sealed(worker), model.sealed(worker));
        for (int partition = 0; partition < 4; partition++) {
            same("isBlocked", x.isBlocked(partition, worker) ? 1 : 0, model.isBlocked(partition, worker) ? 1 : 0);
            same("queued", x.queued(partition, worker), model.queued(partition, worker));
            for (int place = 0; place < model.queued(partition, worker); place++) {
                same("itemAt", x.itemAt(partition, worker, place), model.itemAt(partition, worker, place));
            }
        }
    }

    private void lookAtKey(int key) {
        same("workerOf", x.workerOf(key), model.workerOf(key));
        same("count", x.count(key), model.count(key));
        same("sum", x.sum(key), model.sum(key));
        same("keptSum", x.keptSum(key), model.keptSum(key));
        same("committedCount", x.committedCount(key), model.committedCount(key));
        same("committedSum", x.committedSum(key), model.committedSum(key));
        same("readSum", x.readSum(key), model.readSum(key));
        same("sumInChannels", x.sumInChannels(key), model.sumInChannels(key));
    }

    private void same(String what, int got, int due) {
        CHECK.same(what, got, due);
    }

    /** A row of numbers that looks like chance and is the same for the same start. */
    private static final class Numbers {
        private long last;

        Numbers(long start) {
            last = start * 0x9E3779B97F4A7C15L + 1;
        }

        int below(int bound) {
            last = last * 6364136223846793005L + 1442695040888963407L;
            return (int) ((last >>> 33) % bound);
        }
    }
}
