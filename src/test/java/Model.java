import java.util.ArrayList;
import java.util.LinkedList;
import java.util.List;
import java.util.TreeSet;

/**
 * The document once more, in another form: it adds nothing up, but keeps lists of the events
 * themselves and counts them when it is asked.
 */
final class Model {
    private static final class Event {
        final int key;
        final int value;

        Event(int key, int value) {
            this.key = key;
            this.value = value;
        }
    }

    /** An event, or a barrier if the event is null. */
    private static final class Item {
        final Event event;
        final int barrier;

        Item(Event event, int barrier) {
            this.event = event;
            this.barrier = barrier;
        }
    }

    private static final class Worker {
        final List<LinkedList<Item>> channels = new ArrayList<>();
        final TreeSet<Integer> barriersFrom = new TreeSet<>();
        List<Event> state = new ArrayList<>();
        List<Event> keeping = new ArrayList<>();
        List<Event> open = new ArrayList<>();
        List<Event> sealed = null;
        int sealedFor = -1;

        Worker() {
            for (int partition = 0; partition < 4; partition++) {
                channels.add(new LinkedList<>());
            }
        }
    }

    int completed = 0;
    int abandonedSealed = 0;
    int committedByStart = 0;
    int lostSealed = 0;

    private final List<List<Event>> rows = new ArrayList<>();
    private final int[] offsets = new int[4];
    private final TreeSet<Integer> sent = new TreeSet<>();
    private final int[] offsetsUnderWay = new int[4];
    private final List<Event> sink = new ArrayList<>();
    private List<Worker> workers = new ArrayList<>();
    private int[] keptOffsets = new int[4];
    private List<Event> keptState = new ArrayList<>();
    private int begun = 0;
    private boolean isUnderWay = false;
    private int complete = 0;

    Model() {
        for (int partition = 0; partition < 4; partition++) {
            rows.add(new ArrayList<>());
        }
        workers.add(new Worker());
        workers.add(new Worker());
    }

    int append(int partition, int key, int value) {
        there(partition, 4);
        there(key, 32);
        inRange(value, 1, 100);
        List<Event> row = rows.get(partition);
        allowed(row.size() < 60);
        row.add(new Event(key, value));
        return row.size() - 1;
    }

    int read(int partition) {
        there(partition, 4);
        allowed(canRead(partition));
        Event event = rows.get(partition).get(offsets[partition]);
        offsets[partition]++;
        int worker = workerOf(event.key);
        workers.get(worker).channels.get(partition).addLast(new Item(event, 0));
        return worker;
    }

    private boolean canRead(int partition) {
        List<Event> row = rows.get(partition);
        return offsets[partition] < row.size()
                && queued(partition, workerOf(row.get(offsets[partition]).key)) < 8;
    }

    int sendBarrier(int partition) {
        there(partition, 4);
        allowed(isUnderWay && !sent.contains(partition));
        for (Worker worker : workers) {
            allowed(worker.channels.get(partition).size() < 8);
        }
        for (Worker worker : workers) {
            worker.channels.get(partition).addLast(new Item(null, begun));
        }
        sent.add(partition);
        offsetsUnderWay[partition] = offsets[partition];
        return offsets[partition];
    }

    int take(int number, int partition) {
        there(number, workers.size());
        there(partition, 4);
        allowed(canTake(number, partition));
        Worker worker = workers.get(number);
        Item item = worker.channels.get(partition).removeFirst();
        if (item.event != null) {
            worker.state.add(item.event);
            worker.open.add(item.event);
            return countOf(worker.state, item.event.key);
        }
        if (isUnderWay && item.barrier == begun) {
            worker.barriersFrom.add(partition);
            if (worker.barriersFrom.size() == 4) {
                seal(worker);
            }
        }
        return 0;
    }

    private boolean canTake(int number, int partition) {
        return queued(partition, number) > 0 && !isBlocked(partition, number);
    }

    private void seal(Worker worker) {
        worker.keeping = new ArrayList<>(worker.state);
        worker.sealed = worker.open;
        worker.sealedFor = begun;
        worker.open = new ArrayList<>();
        worker.barriersFrom.clear();
        for (Worker each : workers) {
            if (each.sealed == null) {
                return;
            }
        }
        complete = begun;
        isUnderWay = false;
        keptOffsets = offsetsUnderWay.clone();
        keptState = new ArrayList<>();
        for (Worker each : workers) {
            keptState.addAll(each.keeping);
        }
        completed++;
    }

    int pump(int rounds) {
        inRange(rounds, 1, 20);
        int done = 0;
        for (int round = 0; round < rounds; round++) {
            for (int partition = 0; partition < 4; partition++) {
                if (canRead(partition)) {
                    read(partition);
                    done++;
                }
            }
            for (int worker = 0; worker < workers.size(); worker++) {
                for (int partition = 0; partition < 4; partition++) {
                    if (canTake(worker, partition)) {
                        take(worker, partition);
                        done++;
                    }
                }
            }
        }
        return done;
    }

    int commit(int number) {
        there(number, workers.size());
        Worker worker = workers.get(number);
        allowed(worker.sealed != null && worker.sealedFor == complete);
        int committed = worker.sealed.size();
        sink.addAll(worker.sealed);
        worker.sealed = null;
        return committed;
    }

    int beginCheckpoint() {
        allowed(!isUnderWay);
        for (Worker worker : workers) {
            allowed(worker.sealed == null);
        }
        sent.clear();
        isUnderWay = true;
        begun++;
        return begun;
    }

    int abandon() {
        allowed(isUnderWay);
        isUnderWay = false;
        for (Worker worker : workers) {
            worker.barriersFrom.clear();
            if (worker.sealed != null) {
                worker.open.addAll(worker.sealed);
                worker.sealed = null;
                abandonedSealed++;
            }
        }
        return begun;
    }

    int crash() {
        startAgain(workers.size());
        return complete;
    }

    int rescale(int number) {
        inRange(number, 1, 4);
        int[] before = new int[8];
        for (int group = 0; group < 8; group++) {
            before[group] = workerOf(group);
        }
        startAgain(number);
        int moved = 0;
        for (int group = 0; group < 8; group++) {
            moved += before[group] == workerOf(group) ? 0 : 1;
        }
        return moved;
    }

    private void startAgain(int number) {
        for (Worker worker : workers) {
            if (worker.sealed != null && worker.sealedFor == complete) {
                sink.addAll(worker.sealed);
                committedByStart++;
            } else if (worker.sealed != null) {
                lostSealed++;
            }
        }
        isUnderWay = false;
        workers = new ArrayList<>();
        for (int i = 0; i < number; i++) {
            workers.add(new Worker());
        }
        for (Event event : keptState) {
            workers.get(workerOf(event.key)).state.add(event);
        }
        System.arraycopy(keptOffsets, 0, offsets, 0, 4);
    }

    int events(int partition) {
        there(partition, 4);
        return rows.get(partition).size();
    }

    int offset(int partition) {
        there(partition, 4);
        return offsets[partition];
    }

    int eventAt(int partition, int offset) {
        there(partition, 4);
        there(offset, rows.get(partition).size());
        Event event = rows.get(partition).get(offset);
        return 1000 * event.key + event.value;
    }

    int queued(int partition, int worker) {
        there(partition, 4);
        there(worker, workers.size());
        return workers.get(worker).channels.get(partition).size();
    }

    int itemAt(int partition, int worker, int place) {
        there(place, queued(partition, worker));
        Item item = workers.get(worker).channels.get(partition).get(place);
        return item.event == null ? -item.barrier : 1000 * item.event.key + item.event.value;
    }

    boolean isBlocked(int partition, int worker) {
        there(partition, 4);
        there(worker, workers.size());
        return workers.get(worker).barriersFrom.contains(partition);
    }

    int workers() {
        return workers.size();
    }

    int workerOf(int key) {
        there(key, 32);
        return (int) Math.floor((key % 8) * workers.size() / 8.0);
    }

    int groupsOf(int worker) {
        there(worker, workers.size());
        TreeSet<Integer> groups = new TreeSet<>();
        for (int group = 0; group < 8; group++) {
            if (workerOf(group) == worker) {
                groups.add(group);
            }
        }
        return 10 * groups.first() + groups.size();
    }

    int count(int key) {
        return countOf(workers.get(workerOf(key)).state, key);
    }

    int sum(int key) {
        return sumOf(workers.get(workerOf(key)).state, key);
    }

    int open(int worker) {
        there(worker, workers.size());
        return workers.get(worker).open.size();
    }

    int sealed(int worker) {
        there(worker, workers.size());
        return workers.get(worker).sealed == null ? -1 : workers.get(worker).sealedFor;
    }

    int underWay() {
        return isUnderWay ? begun : -1;
    }

    int complete() {
        return complete == 0 ? -1 : complete;
    }

    boolean hasSent(int partition) {
        there(partition, 4);
        return isUnderWay && sent.contains(partition);
    }

    int keptOffset(int partition) {
        there(partition, 4);
        return keptOffsets[partition];
    }

    int keptSum(int key) {
        there(key, 32);
        return sumOf(keptState, key);
    }

    int committedCount(int key) {
        there(key, 32);
        return countOf(sink, key);
    }

    int committedSum(int key) {
        there(key, 32);
        return sumOf(sink, key);
    }

    int committed() {
        return sink.size();
    }

    int readSum(int key) {
        there(key, 32);
        int total = 0;
        for (int partition = 0; partition < 4; partition++) {
            total += sumOf(rows.get(partition).subList(0, offsets[partition]), key);
        }
        return total;
    }

    int sumInChannels(int key) {
        there(key, 32);
        List<Event> all = new ArrayList<>();
        for (Worker worker : workers) {
            for (LinkedList<Item> channel : worker.channels) {
                for (Item item : channel) {
                    if (item.event != null) {
                        all.add(item.event);
                    }
                }
            }
        }
        return sumOf(all, key);
    }

    private static int countOf(List<Event> events, int key) {
        int total = 0;
        for (Event event : events) {
            total += event.key == key ? 1 : 0;
        }
        return total;
    }

    private static int sumOf(List<Event> events, int key) {
        int total = 0;
        for (Event event : events) {
            total += event.key == key ? event.value : 0;
        }
        return total;
    }

    private static void there(int index, int size) {
        if (index < 0 || index >= size) {
            throw new IndexOutOfBoundsException("the model has none");
        }
    }

    private static void inRange(int value, int least, int largest) {
        if (value < least || value > largest) {
            throw new IllegalArgumentException("the model's range");
        }
    }

    private static void allowed(boolean allowed) {
        if (!allowed) {
            throw new IllegalStateException("not in the model's state");
        }
    }
}
