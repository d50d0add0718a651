import java.util.function.IntSupplier;

/**
 * What a stream shows now, and what it answers and shows when it goes on in several ways. That brings to light what
 * no call tells at once: the sums of transactions, the counts that were kept, what a checkpoint under way has kept,
 * and the number of the next one.
 */
final class Futures {
    private interface Way {
        void go(CheckpointedStream x, StringBuilder told);
    }

    private static final Way[] WAYS = {
        Futures::readAndTakeOnce,
        Futures::pumpLong,
        Futures::finishTheCheckpoint,
        Futures::abandonAndMakeTheNext,
        Futures::crashAndBegin,
        Futures::rescaleAndBegin,
    };

    private Futures() {
    }

    static String of(Check.Make make) {
        StringBuilder text = new StringBuilder("now: ").append(Snapshot.of(make));
        for (Way way : WAYS) {
            text.append("\nand going on:");
            String shown = Snapshot.of(() -> {
                CheckpointedStream x = make.make();
                way.go(x, text);
                return x;
            });
            text.append('\n').append(shown);
        }
        return text.toString();
    }

    private static void readAndTakeOnce(CheckpointedStream x, StringBuilder told) {
        for (int partition = 0; partition < 4; partition++) {
            int p = partition;
            tell(told, () -> x.read(p));
            for (int worker = 0; worker < 4; worker++) {
                int w = worker;
                tell(told, () -> x.take(w, p));
            }
        }
    }

    private static void pumpLong(CheckpointedStream x, StringBuilder told) {
        tell(told, () -> x.pump(20));
    }

    private static void finishTheCheckpoint(CheckpointedStream x, StringBuilder told) {
        for (int i = 0; i < 4; i++) {
            sendAllBarriers(x, told);
            tell(told, () -> x.pump(3));
        }
        for (int worker = 0; worker < 4; worker++) {
            int w = worker;
            tell(told, () -> x.commit(w));
        }
    }

    private static void abandonAndMakeTheNext(CheckpointedStream x, StringBuilder told) {
        tell(told, x::abandon);
        tell(told, () -> x.pump(20));
        tell(told, x::beginCheckpoint);
        sendAllBarriers(x, told);
        tell(told, () -> x.pump(20));
        tell(told, x::crash);
    }

    private static void crashAndBegin(CheckpointedStream x, StringBuilder told) {
        tell(told, x::crash);
        tell(told, x::beginCheckpoint);
        sendAllBarriers(x, told);
    }

    private static void rescaleAndBegin(CheckpointedStream x, StringBuilder told) {
        tell(told, () -> x.rescale(3));
        tell(told, x::beginCheckpoint);
        tell(told, () -> x.pump(1));
    }

    private static void sendAllBarriers(CheckpointedStream x, StringBuilder told) {
        for (int partition = 0; partition < 4; partition++) {
            int p = partition;
            tell(told, () -> x.sendBarrier(p));
        }
    }

    private static void tell(StringBuilder told, IntSupplier call) {
        try {
            told.append(' ').append(call.getAsInt());
        } catch (RuntimeException e) {
            told.append(' ').append(e.getClass().getSimpleName());
        }
    }
}
