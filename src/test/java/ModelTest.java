import java.util.function.IntSupplier;

/**
 * Runs of calls, each answer beside the one of the model; the same runs each time. No object is used for more than
 * 512 calls: long runs have their looks among the calls, behind short ones all is looked at.
 */
final class ModelTest {
    private static final int MOST_CALLS = 512;
    private static final int LONG_RUNS = 400;
    private static final int SHORT_RUNS = 2000;
    private static final int SHORTEST = 20;
    private static final int LONGEST_SHORT = 220;

    private static final Check CHECK = new Check("ModelTest");

    private final Numbers numbers;
    private final CheckpointedStream x = new CheckpointedStream();
    private final Model model = new Model();
    private final String name;
    /** Some runs crash often, some nearly never, so that short and long histories come up. */
    private final int crashes;
    private final int keys;

    private ModelTest(String name, int run) {
        this.name = name + " " + run;
        this.numbers = new Numbers(run);
        this.crashes = 1 + run % 4;
        this.keys = run % 3 == 0 ? 4 : 32;
    }

    public static void main(String[] args) {
        CHECK.sentence("runs of 512 calls answer as the model does", ModelTest::longRuns);
        CHECK.sentence("behind short runs all is as in the model", ModelTest::shortRuns);
        CHECK.finish();
    }

    private static void longRuns() {
        int completed = 0;
        int abandonedSealed = 0;
        int committedByStart = 0;
        int lostSealed = 0;
        for (int run = 0; run < LONG_RUNS; run++) {
            ModelTest test = new ModelTest("long run", run);
            for (int call = 0; call < MOST_CALLS; call++) {
                if (test.numbers.below(4) == 0) {
                    test.lookOnce();
                } else {
                    test.makeCall();
                }
            }
            completed += test.model.completed;
            abandonedSealed += test.model.abandonedSealed;
            committedByStart += test.model.committedByStart;
            lostSealed += test.model.lostSealed;
        }
        CHECK.yes("checkpoints were completed: " + completed, completed > LONG_RUNS);
        CHECK.yes("sealed transactions were abandoned: " + abandonedSealed, abandonedSealed > LONG_RUNS / 8);
        CHECK.yes("sealed ones were committed by starting again: " + committedByStart,
                committedByStart > LONG_RUNS / 8);
        CHECK.yes("sealed ones were lost: " + lostSealed, lostSealed > LONG_RUNS / 8);
    }

    private static void shortRuns() {
        for (int run = 0; run < SHORT_RUNS; run++) {
            shortRun(run).lookAtAllButKeys();
            shortRun(run).lookAtKeys();
        }
    }

    private static ModelTest shortRun(int run) {
        ModelTest test = new ModelTest("short run", run + 1000000);
        int calls = SHORTEST + run % (LONGEST_SHORT - SHORTEST + 1);
        for (int call = 0; call < calls; call++) {
            test.makeCall();
        }
        return test;
    }

    private void makeCall() {
        int choice = numbers.below(100);
        // That a checkpoint ends while only some workers have sealed is rare by itself.
        if (hasSealedUnderWay() && numbers.below(5) == 0) {
            choice = 95 + numbers.below(5);
        }
        if (choice < 63) {
            goOn(choice);
        } else if (choice < 95) {
            goOnWithACheckpoint(choice);
        } else if (numbers.below(8) < crashes) {
            end(choice);
        }
    }

    private boolean hasSealedUnderWay() {
        boolean anySealed = false;
        for (int worker = 0; worker < model.workers(); worker++) {
            anySealed |= model.sealed(worker) != -1;
        }
        return anySealed && model.underWay() != -1;
    }

    private void goOn(int choice) {
        int partition = wrongNowAndThen(4);
        int worker = wrongNowAndThen(model.workers());
        if (choice < 28) {
            int key = numbers.below(40) == 0 ? numbers.below(36) - 2 : numbers.below(keys);
            int value = 1 + wrongNowAndThen(100);
            both("append", () -> x.append(partition, key, value), () -> model.append(partition, key, value));
        } else if (choice < 45) {
            both("read", () -> x.read(partition), () -> model.read(partition));
        } else {
            both("take", () -> x.take(worker, partition), () -> model.take(worker, partition));
        }
    }

    private void goOnWithACheckpoint(int choice) {
        int partition = wrongNowAndThen(4);
        int worker = wrongNowAndThen(model.workers());
        if (choice < 77) {
            both("sendBarrier", () -> x.sendBarrier(partition), () -> model.sendBarrier(partition));
        } else if (choice < 84) {
            int rounds = numbers.below(10) == 0 ? numbers.below(24) - 1 : 1 + numbers.below(2);
            both("pump", () -> x.pump(rounds), () -> model.pump(rounds));
        } else if (choice < 91) {
            both("commit", () -> x.commit(worker), () -> model.commit(worker));
        } else {
            both("beginCheckpoint", x::beginCheckpoint, model::beginCheckpoint);
        }
    }

    private void end(int choice) {
        int workers = 1 + wrongNowAndThen(4);
        if (choice < 97) {
            both("abandon", x::abandon, model::abandon);
        } else if (choice < 98) {
            both("crash", x::crash, model::crash);
        } else {
            both("rescale", () -> x.rescale(workers), () -> model.rescale(workers));
        }
    }

    /** A look whose arguments may be wrong. */
    private void lookOnce() {
        int partition = wrongNowAndThen(4);
        int worker = wrongNowAndThen(model.workers());
        int key = wrongNowAndThen(32);
        int place = numbers.below(10) - 1;
        switch (numbers.below(6)) {
            case 0 -> lookAtThePlace(partition, worker, place);
            case 1 -> lookAtPartition(partition);
            case 2 -> lookAtWorker(worker);
            case 3 -> lookAtKey(key);
            case 4 -> lookAtSumsOf(key);
            default -> lookAtCheckpoints();
        }
    }

    private void lookAtThePlace(int partition, int worker, int place) {
        switch (numbers.below(4)) {
            case 0 -> both("itemAt", () -> x.itemAt(partition, worker, place),
                    () -> model.itemAt(partition, worker, place));
            case 1 -> both("eventAt", () -> x.eventAt(partition, place), () -> model.eventAt(partition, place));
            case 2 -> both("queued", () -> x.queued(partition, worker), () -> model.queued(partition, worker));
            default -> both("isBlocked", () -> asInt(x.isBlocked(partition, worker)),
                    () -> asInt(model.isBlocked(partition, worker)));
        }
    }

    private void lookAtPartition(int partition) {
        switch (numbers.below(4)) {
            case 0 -> both("events", () -> x.events(partition), () -> model.events(partition));
            case 1 -> both("offset", () -> x.offset(partition), () -> model.offset(partition));
            case 2 -> both("keptOffset", () -> x.keptOffset(partition), () -> model.keptOffset(partition));
            default -> both("hasSent", () -> asInt(x.hasSent(partition)), () -> asInt(model.hasSent(partition)));
        }
    }

    private void lookAtWorker(int worker) {
        switch (numbers.below(3)) {
            case 0 -> both("groupsOf", () -> x.groupsOf(worker), () -> model.groupsOf(worker));
            case 1 -> both("open", () -> x.open(worker), () -> model.open(worker));
            default -> both("sealed", () -> x.sealed(worker), () -> model.sealed(worker));
        }
    }

    private void lookAtKey(int key) {
        switch (numbers.below(4)) {
            case 0 -> both("workerOf", () -> x.workerOf(key), () -> model.workerOf(key));
            case 1 -> both("count", () -> x.count(key), () -> model.count(key));
            case 2 -> both("sum", () -> x.sum(key), () -> model.sum(key));
            default -> both("keptSum", () -> x.keptSum(key), () -> model.keptSum(key));
        }
    }

    private void lookAtSumsOf(int key) {
        switch (numbers.below(4)) {
            case 0 -> both("committedCount", () -> x.committedCount(key), () -> model.committedCount(key));
            case 1 -> both("committedSum", () -> x.committedSum(key), () -> model.committedSum(key));
            case 2 -> both("readSum", () -> x.readSum(key), () -> model.readSum(key));
            default -> both("sumInChannels", () -> x.sumInChannels(key), () -> model.sumInChannels(key));
        }
    }

    private void lookAtCheckpoints() {
        switch (numbers.below(4)) {
            case 0 -> both("workers", x::workers, model::workers);
            case 1 -> both("underWay", x::underWay, model::underWay);
            case 2 -> both("complete", x::complete, model::complete);
            default -> both("committed", x::committed, model::committed);
        }
    }

    private int wrongNowAndThen(int size) {
        return numbers.below(40) == 0 ? numbers.below(size + 4) - 2 : numbers.below(size);
    }

    private void both(String call, IntSupplier got, IntSupplier due) {
        CHECK.sameText(name + " " + call, answerOf(got), answerOf(due));
    }

    private static String answerOf(IntSupplier call) {
        try {
            return Integer.toString(call.getAsInt());
        } catch (RuntimeException e) {
            return e.getClass().getSimpleName();
        }
    }

    private void lookAtAllButKeys() {
        same("workers", x.workers(), model.workers());
        same("underWay", x.underWay(), model.underWay());
        same("complete", x.complete(), model.complete());
        same("committed", x.committed(), model.committed());
        for (int partition = 0; partition < 4; partition++) {
            lookAtAllOfPartition(partition);
        }
        for (int worker = 0; worker < model.workers(); worker++) {
            lookAtAllOfWorker(worker);
        }
    }

    private void lookAtAllOfPartition(int partition) {
        same("events", x.events(partition), model.events(partition));
        same("offset", x.offset(partition), model.offset(partition));
        same("keptOffset", x.keptOffset(partition), model.keptOffset(partition));
        same("hasSent", asInt(x.hasSent(partition)), asInt(model.hasSent(partition)));
        for (int offset = 0; offset < model.events(partition); offset++) {
            same("eventAt", x.eventAt(partition, offset), model.eventAt(partition, offset));
        }
    }

    private void lookAtAllOfWorker(int worker) {
        same("groupsOf", x.groupsOf(worker), model.groupsOf(worker));
        same("open", x.open(worker), model.open(worker));
        same("sealed", x.sealed(worker), model.sealed(worker));
        for (int partition = 0; partition < 4; partition++) {
            same("isBlocked", asInt(x.isBlocked(partition, worker)), asInt(model.isBlocked(partition, worker)));
            same("queued", x.queued(partition, worker), model.queued(partition, worker));
            for (int place = 0; place < model.queued(partition, worker); place++) {
                same("itemAt", x.itemAt(partition, worker, place), model.itemAt(partition, worker, place));
            }
        }
    }

    private void lookAtKeys() {
        for (int key = 0; key < 32; key++) {
            same("workerOf", x.workerOf(key), model.workerOf(key));
            same("count", x.count(key), model.count(key));
            same("sum", x.sum(key), model.sum(key));
            same("keptSum", x.keptSum(key), model.keptSum(key));
            same("committedCount", x.committedCount(key), model.committedCount(key));
            same("committedSum", x.committedSum(key), model.committedSum(key));
            same("readSum", x.readSum(key), model.readSum(key));
            same("sumInChannels", x.sumInChannels(key), model.sumInChannels(key));
        }
    }

    private void same(String what, int got, int due) {
        CHECK.same(what, got, due);
    }

    private static int asInt(boolean answer) {
        return answer ? 1 : 0;
    }
}
