/** A runner of a stateful stream with checkpoints. */
public final class CheckpointedStream {
    /** No checkpoint. */
    public static final int NONE = -1;

    private static final int PARTITIONS = 4;
    private static final int EVENT_ROOM = 60;
    private static final int KEYS = 32;
    private static final int LARGEST_VALUE = 100;
    private static final int GROUPS = 8;
    private static final int FIRST_WORKERS = 2;
    private static final int MOST_WORKERS = 4;
    private static final int CHANNEL_ROOM = 8;
    private static final int MOST_ROUNDS = 20;
    /** An event is kept as the face tells it: its key times this, and its value, together. */
    private static final int KEY_UNIT = 1000;

    private final EventRows rows = new EventRows();
    private final Readers readers = new Readers();
    private final Channels channels = new Channels();

    // A key belongs to one worker until all is started again, so one tally by key
    // holds what all the workers have of a kind.
    private final Tally state = new Tally();
    private final Tally openTallies = new Tally();
    private final Tally sealedTallies = new Tally();
    private final Tally keeping = new Tally();
    private final Tally kept = new Tally();
    private final Tally sink = new Tally();

    private final int[] sealedFor = new int[MOST_WORKERS];
    private int workerCount = FIRST_WORKERS;
    private int lastBegun = 0;
    private int numberUnderWay = NONE;
    private int latestComplete = NONE;

    public CheckpointedStream() {
        for (int worker = 0; worker < MOST_WORKERS; worker++) {
            sealedFor[worker] = NONE;
        }
    }

    // ---- events and readers

    public int append(int partition, int key, int value)
            throws IndexOutOfBoundsException, IllegalArgumentException, IllegalStateException {
        requirePartition(partition);
        requireKey(key);
        if (value < 1 || value > LARGEST_VALUE) {
            throw new IllegalArgumentException("a value is 1 to 100");
        }
        if (rows.lengths[partition] >= EVENT_ROOM) {
            throw new IllegalStateException("the partition has 60 events");
        }
        return rows.add(partition, key * KEY_UNIT + value);
    }

    public int read(int partition) throws IndexOutOfBoundsException, IllegalStateException {
        requirePartition(partition);
        if (!canReadFrom(partition)) {
            throw new IllegalStateException("there is no event to read, or no room in its channel");
        }
        return readFrom(partition);
    }

    public int sendBarrier(int partition) throws IndexOutOfBoundsException, IllegalStateException {
        requirePartition(partition);
        if (numberUnderWay == NONE || readers.sent[partition]) {
            throw new IllegalStateException("there is no barrier to send");
        }
        if (!hasRoomInAllChannels(partition)) {
            throw new IllegalStateException("a channel of the partition has 8 items");
        }
        for (int worker = 0; worker < workerCount; worker++) {
            channels.put(partition, worker, -numberUnderWay);
        }
        return readers.keepForBarrier(partition);
    }

    // ---- workers

    public int take(int worker, int partition) throws IndexOutOfBoundsException, IllegalStateException {
        requireWorker(worker);
        requirePartition(partition);
        if (!channels.canGive(partition, worker)) {
            throw new IllegalStateException("the channel has no item, or is blocked");
        }
        return takeFrom(partition, worker);
    }

    public int pump(int rounds) throws IllegalArgumentException {
        if (rounds < 1 || rounds > MOST_ROUNDS) {
            throw new IllegalArgumentException("rounds are 1 to 20");
        }
        int done = 0;
        for (int round = 0; round < rounds; round++) {
            done += readRound();
            done += takeRound();
        }
        return done;
    }

    public int commit(int worker) throws IndexOutOfBoundsException, IllegalStateException {
        requireWorker(worker);
        if (!isReadyToCommit(worker)) {
            throw new IllegalStateException("no sealed transaction of a complete checkpoint");
        }
        return commitSealed(worker);
    }

    // ---- checkpoints, crashes

    public int beginCheckpoint() throws IllegalStateException {
        if (numberUnderWay != NONE || hasAnySealed()) {
            throw new IllegalStateException("a checkpoint is under way, or a transaction is sealed");
        }
        lastBegun++;
        numberUnderWay = lastBegun;
        readers.forgetBarriers();
        return numberUnderWay;
    }

    public int abandon() throws IllegalStateException {
        if (numberUnderWay == NONE) {
            throw new IllegalStateException("no checkpoint is under way");
        }
        int abandoned = numberUnderWay;
        for (int worker = 0; worker < workerCount; worker++) {
            channels.unblockAll(worker);
            if (sealedFor[worker] == abandoned) {
                moveTallies(sealedTallies, openTallies, worker);
                sealedFor[worker] = NONE;
            }
        }
        numberUnderWay = NONE;
        return abandoned;
    }

    public int crash() {
        startAgain(workerCount);
        return latestComplete == NONE ? 0 : latestComplete;
    }

    public int rescale(int workers) throws IllegalArgumentException {
        if (workers < 1 || workers > MOST_WORKERS) {
            throw new IllegalArgumentException("workers are 1 to 4");
        }
        int moved = 0;
        for (int group = 0; group < GROUPS; group++) {
            if (ownerOfGroup(group, workers) != ownerOfGroup(group, workerCount)) {
                moved++;
            }
        }
        startAgain(workers);
        return moved;
    }

    // ---- partitions and channels as they are

    public int events(int partition) throws IndexOutOfBoundsException {
        requirePartition(partition);
        return rows.lengths[partition];
    }

    public int offset(int partition) throws IndexOutOfBoundsException {
        requirePartition(partition);
        return readers.offsets[partition];
    }

    public int eventAt(int partition, int offset) throws IndexOutOfBoundsException {
        requirePartition(partition);
        if (offset < 0 || offset >= rows.lengths[partition]) {
            throw new IndexOutOfBoundsException("there is no such offset");
        }
        return rows.get(partition, offset);
    }

    public int queued(int partition, int worker) throws IndexOutOfBoundsException {
        requirePartition(partition);
        requireWorker(worker);
        return channels.size(partition, worker);
    }

    public int itemAt(int partition, int worker, int place) throws IndexOutOfBoundsException {
        requirePartition(partition);
        requireWorker(worker);
        if (place < 0 || place >= channels.size(partition, worker)) {
            throw new IndexOutOfBoundsException("there is no such item");
        }
        return channels.get(partition, worker, place);
    }

    public boolean isBlocked(int partition, int worker) throws IndexOutOfBoundsException {
        requirePartition(partition);
        requireWorker(worker);
        return channels.isShut(partition, worker);
    }

    // ---- workers as they are

    public int workers() {
        return workerCount;
    }

    public int workerOf(int key) throws IndexOutOfBoundsException {
        requireKey(key);
        return ownerOfKey(key);
    }

    public int groupsOf(int worker) throws IndexOutOfBoundsException {
        requireWorker(worker);
        int first = GROUPS;
        int owned = 0;
        for (int group = GROUPS - 1; group >= 0; group--) {
            if (ownerOfGroup(group, workerCount) == worker) {
                first = group;
                owned++;
            }
        }
        return 10 * first + owned;
    }

    public int count(int key) throws IndexOutOfBoundsException {
        requireKey(key);
        return state.counts[key];
    }

    public int sum(int key) throws IndexOutOfBoundsException {
        requireKey(key);
        return state.sums[key];
    }

    public int open(int worker) throws IndexOutOfBoundsException {
        requireWorker(worker);
        int total = 0;
        for (int key = 0; key < KEYS; key++) {
            if (ownerOfKey(key) == worker) {
                total += openTallies.counts[key];
            }
        }
        return total;
    }

    public int sealed(int worker) throws IndexOutOfBoundsException {
        requireWorker(worker);
        return sealedFor[worker];
    }

    // ---- checkpoints as they are

    public int underWay() {
        return numberUnderWay;
    }

    public int complete() {
        return latestComplete;
    }

    public boolean hasSent(int partition) throws IndexOutOfBoundsException {
        requirePartition(partition);
        return numberUnderWay != NONE && readers.sent[partition];
    }

    public int keptOffset(int partition) throws IndexOutOfBoundsException {
        requirePartition(partition);
        return readers.kept[partition];
    }

    public int keptSum(int key) throws IndexOutOfBoundsException {
        requireKey(key);
        return kept.sums[key];
    }

    // ---- the sink, and one reader of all

    public int committedCount(int key) throws IndexOutOfBoundsException {
        requireKey(key);
        return sink.counts[key];
    }

    public int committedSum(int key) throws IndexOutOfBoundsException {
        requireKey(key);
        return sink.sums[key];
    }

    public int committed() {
        int total = 0;
        for (int key = 0; key < KEYS; key++) {
            total += sink.counts[key];
        }
        return total;
    }

    public int readSum(int key) throws IndexOutOfBoundsException {
        requireKey(key);
        int total = 0;
        for (int partition = 0; partition < PARTITIONS; partition++) {
            total += rows.sumAhead(partition, readers.offsets[partition], key);
        }
        return total;
    }

    public int sumInChannels(int key) throws IndexOutOfBoundsException {
        requireKey(key);
        return channels.sumOfKey(key);
    }

    // ---- what the face refuses

    private static void requirePartition(int partition) {
        if (partition < 0 || partition >= PARTITIONS) {
            throw new IndexOutOfBoundsException("there is no such partition");
        }
    }

    private static void requireKey(int key) {
        if (key < 0 || key >= KEYS) {
            throw new IndexOutOfBoundsException("there is no such key");
        }
    }

    private void requireWorker(int worker) {
        if (worker < 0 || worker >= workerCount) {
            throw new IndexOutOfBoundsException("there is no such worker");
        }
    }

    // ---- reading and taking

    private static int keyOf(int event) {
        return event / KEY_UNIT;
    }

    private static int valueOf(int event) {
        return event % KEY_UNIT;
    }

    private static int ownerOfGroup(int group, int workers) {
        return group * workers / GROUPS;
    }

    private int ownerOfKey(int key) {
        return ownerOfGroup(key % GROUPS, workerCount);
    }

    private boolean canReadFrom(int partition) {
        int offset = readers.offsets[partition];
        if (offset >= rows.lengths[partition]) {
            return false;
        }
        int event = rows.get(partition, offset);
        return channels.hasRoom(partition, ownerOfKey(keyOf(event)));
    }

    private int readFrom(int partition) {
        int event = rows.get(partition, readers.offsets[partition]);
        int worker = ownerOfKey(keyOf(event));
        channels.put(partition, worker, event);
        readers.offsets[partition]++;
        return worker;
    }

    private boolean hasRoomInAllChannels(int partition) {
        for (int worker = 0; worker < workerCount; worker++) {
            if (!channels.hasRoom(partition, worker)) {
                return false;
            }
        }
        return true;
    }

    private int takeFrom(int partition, int worker) {
        int item = channels.removeFirst(partition, worker);
        if (item > 0) {
            return takeEvent(keyOf(item), valueOf(item));
        }
        // A barrier of an abandoned checkpoint may still stand in a channel.
        if (-item == numberUnderWay) {
            takeBarrier(partition, worker);
        }
        return 0;
    }

    private int takeEvent(int key, int value) {
        state.add(key, 1, value);
        openTallies.add(key, 1, value);
        return state.counts[key];
    }

    private void takeBarrier(int partition, int worker) {
        channels.block(partition, worker);
        if (channels.areAllBlocked(worker)) {
            sealTransaction(worker);
        }
    }

    private int readRound() {
        int done = 0;
        for (int partition = 0; partition < PARTITIONS; partition++) {
            if (canReadFrom(partition)) {
                readFrom(partition);
                done++;
            }
        }
        return done;
    }

    private int takeRound() {
        int done = 0;
        for (int worker = 0; worker < workerCount; worker++) {
            for (int partition = 0; partition < PARTITIONS; partition++) {
                if (channels.canGive(partition, worker)) {
                    takeFrom(partition, worker);
                    done++;
                }
            }
        }
        return done;
    }

    // ---- transactions and checkpoints

    private void sealTransaction(int worker) {
        for (int key = 0; key < KEYS; key++) {
            if (ownerOfKey(key) == worker) {
                keeping.copyKey(state, key);
            }
        }
        moveTallies(openTallies, sealedTallies, worker);
        sealedFor[worker] = numberUnderWay;
        channels.unblockAll(worker);
        if (haveAllSealed()) {
            completeCheckpoint();
        }
    }

    private void completeCheckpoint() {
        kept.copyAll(keeping);
        readers.keepAll();
        latestComplete = numberUnderWay;
        numberUnderWay = NONE;
    }

    private boolean haveAllSealed() {
        for (int worker = 0; worker < workerCount; worker++) {
            if (sealedFor[worker] == NONE) {
                return false;
            }
        }
        return true;
    }

    private boolean hasAnySealed() {
        for (int worker = 0; worker < workerCount; worker++) {
            if (sealedFor[worker] != NONE) {
                return true;
            }
        }
        return false;
    }

    private boolean isReadyToCommit(int worker) {
        return sealedFor[worker] != NONE && sealedFor[worker] == latestComplete;
    }

    private int commitSealed(int worker) {
        sealedFor[worker] = NONE;
        return moveTallies(sealedTallies, sink, worker);
    }

    private int moveTallies(Tally from, Tally to, int worker) {
        int moved = 0;
        for (int key = 0; key < KEYS; key++) {
            if (ownerOfKey(key) == worker) {
                moved += from.counts[key];
                to.add(key, from.counts[key], from.sums[key]);
                from.clearKey(key);
            }
        }
        return moved;
    }

    private void startAgain(int workers) {
        for (int worker = 0; worker < workerCount; worker++) {
            if (isReadyToCommit(worker)) {
                commitSealed(worker);
            }
            sealedFor[worker] = NONE;
        }
        numberUnderWay = NONE;
        openTallies.clearAll();
        sealedTallies.clearAll();
        channels.clearAll();
        readers.returnToKept();
        state.copyAll(kept);
        workerCount = workers;
    }

    /** The rows of events of the partitions. */
    private static final class EventRows {
        final int[] lengths = new int[PARTITIONS];
        private final int[] events = new int[PARTITIONS * EVENT_ROOM];

        int add(int partition, int event) {
            int offset = lengths[partition];
            events[partition * EVENT_ROOM + offset] = event;
            lengths[partition] = offset + 1;
            return offset;
        }

        int get(int partition, int offset) {
            return events[partition * EVENT_ROOM + offset];
        }

        int sumAhead(int partition, int end, int key) {
            int total = 0;
            for (int offset = 0; offset < end; offset++) {
                int event = get(partition, offset);
                if (keyOf(event) == key) {
                    total += valueOf(event);
                }
            }
            return total;
        }
    }

    /** Where the readers stand, and what they kept for checkpoints. */
    private static final class Readers {
        final int[] offsets = new int[PARTITIONS];
        final int[] kept = new int[PARTITIONS];
        final boolean[] sent = new boolean[PARTITIONS];
        private final int[] keeping = new int[PARTITIONS];

        int keepForBarrier(int partition) {
            sent[partition] = true;
            keeping[partition] = offsets[partition];
            return keeping[partition];
        }

        void forgetBarriers() {
            for (int partition = 0; partition < PARTITIONS; partition++) {
                sent[partition] = false;
            }
        }

        void keepAll() {
            for (int partition = 0; partition < PARTITIONS; partition++) {
                kept[partition] = keeping[partition];
            }
        }

        void returnToKept() {
            for (int partition = 0; partition < PARTITIONS; partition++) {
                offsets[partition] = kept[partition];
            }
        }
    }

    /** The channels from each partition to each worker; a barrier is 0 less its number. */
    private static final class Channels {
        private final int[] items = new int[PARTITIONS * MOST_WORKERS * CHANNEL_ROOM];
        private final int[] sizes = new int[PARTITIONS * MOST_WORKERS];
        private final boolean[] blocked = new boolean[PARTITIONS * MOST_WORKERS];

        private static int channelOf(int partition, int worker) {
            return partition * MOST_WORKERS + worker;
        }

        int size(int partition, int worker) {
            return sizes[channelOf(partition, worker)];
        }

        int get(int partition, int worker, int place) {
            return items[channelOf(partition, worker) * CHANNEL_ROOM + place];
        }

        boolean hasRoom(int partition, int worker) {
            return size(partition, worker) < CHANNEL_ROOM;
        }

        boolean isShut(int partition, int worker) {
            return blocked[channelOf(partition, worker)];
        }

        boolean canGive(int partition, int worker) {
            return size(partition, worker) > 0 && !isShut(partition, worker);
        }

        void put(int partition, int worker, int item) {
            int channel = channelOf(partition, worker);
            items[channel * CHANNEL_ROOM + sizes[channel]] = item;
            sizes[channel]++;
        }

        int removeFirst(int partition, int worker) {
            int channel = channelOf(partition, worker);
            int first = channel * CHANNEL_ROOM;
            int item = items[first];
            for (int place = 1; place < sizes[channel]; place++) {
                items[first + place - 1] = items[first + place];
            }
            sizes[channel]--;
            return item;
        }

        void block(int partition, int worker) {
            blocked[channelOf(partition, worker)] = true;
        }

        boolean areAllBlocked(int worker) {
            for (int partition = 0; partition < PARTITIONS; partition++) {
                if (!isShut(partition, worker)) {
                    return false;
                }
            }
            return true;
        }

        void unblockAll(int worker) {
            for (int partition = 0; partition < PARTITIONS; partition++) {
                blocked[channelOf(partition, worker)] = false;
            }
        }

        void clearAll() {
            for (int channel = 0; channel < PARTITIONS * MOST_WORKERS; channel++) {
                sizes[channel] = 0;
                blocked[channel] = false;
            }
        }

        int sumOfKey(int key) {
            int total = 0;
            for (int channel = 0; channel < PARTITIONS * MOST_WORKERS; channel++) {
                for (int place = 0; place < sizes[channel]; place++) {
                    int item = items[channel * CHANNEL_ROOM + place];
                    if (item > 0 && keyOf(item) == key) {
                        total += valueOf(item);
                    }
                }
            }
            return total;
        }
    }

    /** A count and a sum for each key. */
    private static final class Tally {
        final int[] counts = new int[KEYS];
        final int[] sums = new int[KEYS];

        void add(int key, int moreCount, int moreSum) {
            counts[key] += moreCount;
            sums[key] += moreSum;
        }

        void copyKey(Tally other, int key) {
            counts[key] = other.counts[key];
            sums[key] = other.sums[key];
        }

        void copyAll(Tally other) {
            for (int key = 0; key < KEYS; key++) {
                counts[key] = other.counts[key];
                sums[key] = other.sums[key];
            }
        }

        void clearKey(int key) {
            counts[key] = 0;
            sums[key] = 0;
        }

        void clearAll() {
            for (int key = 0; key < KEYS; key++) {
                clearKey(key);
            }
        }
    }
}
