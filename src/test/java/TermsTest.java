/**
 * What the document says ahead of its promises of a whole run of calls: that barriers cut the stream, that each event
 * counts once however often all starts again, and that this holds up to the 512th call.
 */
final class TermsTest {
    private static final int RUNS = 600;
    private static final int SHORTEST = 30;
    private static final int LONGEST = 300;

    private static final Check CHECK = new Check("TermsTest");

    private final Numbers numbers;
    private final CheckpointedStream x = new CheckpointedStream();
    private final String name;
    private final int[][] keys = new int[4][60];
    private final int[][] values = new int[4][60];
    private final int[] lengths = new int[4];
    private int workers = 2;

    private TermsTest(int run) {
        numbers = new Numbers(run + 5000);
        name = "run " + run + " ";
        int calls = SHORTEST + run % (LONGEST - SHORTEST + 1);
        for (int call = 0; call < calls; call++) {
            makeCall();
        }
    }

    public static void main(String[] args) {
        CHECK.sentence("what is read is in the state of a worker or in a channel", TermsTest::readIsSomewhere);
        CHECK.sentence("barriers cut the stream: what stands ahead of them is kept", TermsTest::barriersCut);
        CHECK.sentence("behind a start again the sink has what the latest complete checkpoint has",
                TermsTest::startedAgain);
        CHECK.sentence("each event counts once", TermsTest::eventsCountOnce);
        CHECK.sentence("an object answers up to its 512th call", TermsTest::upToThe512th);
        CHECK.finish();
    }

    private void makeCall() {
        int choice = numbers.below(200);
        int partition = numbers.below(4);
        int worker = numbers.below(workers);
        if (choice < 45) {
            append(partition);
        } else if (choice < 70) {
            Check.thrownBy(() -> x.read(partition));
        } else if (choice < 120) {
            Check.thrownBy(() -> x.take(worker, partition));
        } else if (choice < 160) {
            Check.thrownBy(() -> x.sendBarrier(partition));
        } else if (choice < 168) {
            Check.thrownBy(() -> x.commit(worker));
        } else if (choice < 182) {
            Check.thrownBy(x::beginCheckpoint);
        } else if (choice < 194) {
            x.pump(1);
        } else {
            startAgainOrAbandon(choice);
        }
    }

    private void startAgainOrAbandon(int choice) {
        switch (choice) {
            case 194, 195, 196, 197 -> Check.thrownBy(x::abandon);
            case 198 -> x.crash();
            default -> rescale();
        }
    }

    private void rescale() {
        workers = 1 + numbers.below(4);
        x.rescale(workers);
    }

    private void append(int partition) {
        if (lengths[partition] == 60) {
            return;
        }
        int key = numbers.below(32);
        int value = 1 + numbers.below(100);
        x.append(partition, key, value);
        keys[partition][lengths[partition]] = key;
        values[partition][lengths[partition]] = value;
        lengths[partition]++;
    }

    private int countAhead(int key, int[] ends) {
        int total = 0;
        for (int partition = 0; partition < 4; partition++) {
            for (int offset = 0; offset < ends[partition]; offset++) {
                total += keys[partition][offset] == key ? 1 : 0;
            }
        }
        return total;
    }

    private int sumAhead(int key, int[] ends) {
        int total = 0;
        for (int partition = 0; partition < 4; partition++) {
            for (int offset = 0; offset < ends[partition]; offset++) {
                total += keys[partition][offset] == key ? values[partition][offset] : 0;
            }
        }
        return total;
    }

    private int[] offsets() {
        return new int[] {x.offset(0), x.offset(1), x.offset(2), x.offset(3)};
    }

    private int[] keptOffsets() {
        return new int[] {x.keptOffset(0), x.keptOffset(1), x.keptOffset(2), x.keptOffset(3)};
    }

    private static void readIsSomewhere() {
        for (int run = 0; run < RUNS; run++) {
            TermsTest test = new TermsTest(run);
            int[] ends = test.offsets();
            for (int key = 0; key < 32; key++) {
                int due = test.sumAhead(key, ends);
                CHECK.same(test.name + "readSum", test.x.readSum(key), due);
                CHECK.same(test.name + "sum and sumInChannels", test.x.sum(key) + test.x.sumInChannels(key), due);
            }
        }
    }

    private static void barriersCut() {
        int complete = 0;
        for (int run = 0; run < RUNS; run++) {
            TermsTest test = new TermsTest(run);
            int[] ends = test.keptOffsets();
            for (int key = 0; key < 32; key++) {
                CHECK.same(test.name + "keptSum", test.x.keptSum(key), test.sumAhead(key, ends));
            }
            complete += test.x.complete() != CheckpointedStream.NONE ? 1 : 0;
        }
        CHECK.yes("runs with a complete checkpoint: " + complete, complete > RUNS / 3);
    }

    private static void startedAgain() {
        for (int run = 0; run < RUNS; run++) {
            TermsTest test = new TermsTest(run);
            int[] ends = test.keptOffsets();
            if (run % 2 == 0) {
                test.x.crash();
            } else {
                test.x.rescale(1 + run / 2 % 4);
            }
            for (int key = 0; key < 32; key++) {
                CHECK.same(test.name + "count", test.x.count(key), test.countAhead(key, ends));
                CHECK.same(test.name + "sum", test.x.sum(key), test.sumAhead(key, ends));
                CHECK.same(test.name + "committedCount", test.x.committedCount(key), test.countAhead(key, ends));
                CHECK.same(test.name + "committedSum", test.x.committedSum(key), test.sumAhead(key, ends));
            }
        }
    }

    private static void eventsCountOnce() {
        for (int run = 0; run < RUNS; run++) {
            TermsTest test = new TermsTest(run);
            goOnToTheEnd(test.x);
            int all = 0;
            for (int key = 0; key < 32; key++) {
                CHECK.same(test.name + "committedCount", test.x.committedCount(key),
                        test.countAhead(key, test.lengths));
                CHECK.same(test.name + "committedSum", test.x.committedSum(key), test.sumAhead(key, test.lengths));
                all += test.countAhead(key, test.lengths);
            }
            CHECK.same(test.name + "committed", test.x.committed(), all);
        }
    }

    /** Reads and takes all that there is, and commits it. */
    private static void goOnToTheEnd(CheckpointedStream x) {
        Check.thrownBy(x::abandon);
        for (int worker = 0; worker < 4; worker++) {
            int w = worker;
            Check.thrownBy(() -> x.commit(w));
        }
        while (x.pump(20) > 0) {
            CHECK.same("underWay", x.underWay(), CheckpointedStream.NONE);
        }
        Streams.completeCheckpoint(x);
        Streams.commitAll(x);
    }

    private static void upToThe512th() {
        CHECK.same("committed", after511Calls().committed(), 240);
        CHECK.same("committedSum", after511Calls().committedSum(31), 4 * 32);
        CHECK.same("count", after511Calls().count(4), 4 * 2);
        CHECK.same("readSum", after511Calls().readSum(0), 4 * (1 + 33));
        CHECK.same("eventAt", after511Calls().eventAt(3, 59), 27060);
        CHECK.same("beginCheckpoint", after511Calls().beginCheckpoint(), 2);
        CHECK.same("crash", after511Calls().crash(), 1);
        CHECK.same("rescale", after511Calls().rescale(1), 6);
        CHECK.same("pump", after511Calls().pump(20), 0);
        CHECK.throwsIt("append", Check.NOT_NOW, () -> after511Calls().append(0, 0, 1));
        CHECK.throwsIt("read", Check.NOT_NOW, () -> after511Calls().read(0));
        CHECK.throwsIt("take", Check.NO_SUCH, () -> after511Calls().take(4, 0));
    }

    /** All rows are full, read, kept and committed; then it starts again with 1 to 4 workers, at last with 4. */
    private static CheckpointedStream after511Calls() {
        CheckpointedStream x = new CheckpointedStream();
        for (int i = 0; i < 240; i++) {
            x.append(i % 4, i / 4 % 32, 1 + i / 4);
        }
        for (int call = 240; call < 243; call++) {
            x.pump(20);
        }
        Streams.beginAndSend(x);
        x.pump(1);
        x.commit(0);
        x.commit(1);
        for (int call = 251; call < 510; call++) {
            x.rescale(1 + call % 4);
        }
        x.rescale(4);
        return x;
    }
}
