/** A map of ints to ints by extendible hashing, on a disk of blocks that is synced by one of two masters. */
public final class ExtendStore {
    public static final int NO_ROOM = -2000000001, NO_KEY = -2000000002, DOWN = -2000000003;

    private static final int LEAST_BLOCKS = 8;
    private static final int MOST_BLOCKS = 200;
    private static final int LIMIT_OF_MOST_DEPTH = 8;
    private static final int MASTERS = 2;
    private static final int FIRST_BUCKET_BLOCK = 2;
    private static final int FIRST_DIRECTORY_BLOCK = 3;
    private static final int KEYS_A_BUCKET = 15;
    private static final int ENTRIES_A_BLOCK = 32;
    private static final int MULTIPLIER = 0x9E3779B1;

    private final int blocks;
    private final int mostDepth;
    private final State live;
    private final State[] masters;
    private final boolean[] taken;
    private int lastMaster;
    private int written;
    private int writesToCrash;
    private boolean down;

    public ExtendStore(int blocks, int mostDepth) {
        this.blocks = Math.max(LEAST_BLOCKS, Math.min(MOST_BLOCKS, blocks));
        this.mostDepth = Math.max(0, Math.min(LIMIT_OF_MOST_DEPTH, mostDepth));
        Bucket first = new Bucket(0);
        first.block = FIRST_BUCKET_BLOCK;
        live = new State(this.mostDepth, first);
        masters = new State[MASTERS];
        for (int i = 0; i < MASTERS; i++) {
            masters[i] = new State(this.mostDepth, first);
        }
        taken = new boolean[this.blocks];
    }

    public int format() {
        if (down) {
            return DOWN;
        }
        live.makeEmpty(new Bucket(0));
        return writeChanges();
    }

    public int put(int k, int v) {
        if (down) {
            return DOWN;
        }
        int mixed = mix(k);
        Bucket home = live.bucketOf(mixed);
        if (home.count == KEYS_A_BUCKET && home.placeOf(k) < 0) {
            int local = localDepthWithRoom(home, mixed);
            if (!mayBecome(home.local, local)) {
                return NO_ROOM;
            }
            for (int from = home.local; from < local; from++) {
                splitBucketOf(mixed);
            }
        }
        if (changeableBucketOf(mixed).store(k, v)) {
            live.keys++;
        }
        return 0;
    }

    public int get(int k) {
        if (down) {
            return DOWN;
        }
        Bucket home = live.bucketOf(mix(k));
        int place = home.placeOf(k);
        return place < 0 ? 0 : home.values[place];
    }

    public boolean has(int k) {
        return !down && live.bucketOf(mix(k)).placeOf(k) >= 0;
    }

    public int remove(int k) {
        if (down) {
            return DOWN;
        }
        int mixed = mix(k);
        int place = live.bucketOf(mixed).placeOf(k);
        if (place < 0) {
            return NO_KEY;
        }
        changeableBucketOf(mixed).drop(place);
        live.keys--;
        mergeWhileEmpty(mixed);
        live.halveWhilePossible();
        return 0;
    }

    public int size() {
        return down ? DOWN : live.keys;
    }

    public int depth() {
        return down ? DOWN : live.depth;
    }

    public int buckets() {
        return down ? DOWN : live.buckets;
    }

    public int sync() {
        return down ? DOWN : writeChanges();
    }

    public void crashAfter(int n) {
        if (!down) {
            writesToCrash = Math.max(0, n);
        }
    }

    public int recover() {
        live.copyFrom(masters[lastMaster]);
        down = false;
        writesToCrash = 0;
        return 0;
    }

    public int writes() {
        return written;
    }

    public int free() {
        return down ? DOWN : freeBlocks();
    }

    public int bucket(int k, int what) {
        if (down) {
            return DOWN;
        }
        Bucket home = live.bucketOf(mix(k));
        switch (what) {
            case 0:
                return home.local;
            case 1:
                return home.count;
            case 2:
                return home.block;
            default:
                return 0;
        }
    }

    private static int mix(int k) {
        int product = k * MULTIPLIER;
        return product ^ (product >>> 15);
    }

    private static int blocksOfDirectory(int depth) {
        return ((1 << depth) + ENTRIES_A_BLOCK - 1) / ENTRIES_A_BLOCK;
    }

    private int freeBlocks() {
        State synced = masters[lastMaster];
        return blocks - MASTERS - synced.buckets - blocksOfDirectory(synced.depth);
    }

    // A full bucket's keys and the new one part at the lowest bit in which one of them differs from the new one.
    private static int localDepthWithRoom(Bucket full, int mixed) {
        int differing = 0;
        for (int i = 0; i < full.count; i++) {
            differing |= mix(full.keys[i]) ^ mixed;
        }
        return Integer.numberOfTrailingZeros(differing) + 1;
    }

    // Looked at before the first split, because a refused key must leave no split behind.
    private boolean mayBecome(int local, int newLocal) {
        int depth = Math.max(live.depth, newLocal);
        if (depth > mostDepth) {
            return false;
        }
        int buckets = live.buckets + newLocal - local;
        return buckets + blocksOfDirectory(depth) <= blocks - MASTERS;
    }

    private void splitBucketOf(int mixed) {
        Bucket old = live.bucketOf(mixed);
        if (old.local == live.depth) {
            live.doubleDirectory();
        }
        int bit = 1 << old.local;
        Bucket low = new Bucket(old.local + 1);
        Bucket high = new Bucket(old.local + 1);
        for (int i = 0; i < old.count; i++) {
            Bucket half = (mix(old.keys[i]) & bit) == 0 ? low : high;
            half.store(old.keys[i], old.values[i]);
        }
        live.enter(low, mixed & ~bit);
        live.enter(high, mixed | bit);
        live.buckets++;
    }

    private Bucket changeableBucketOf(int mixed) {
        Bucket home = live.bucketOf(mixed);
        if (home.block == 0) {
            return home;
        }
        // The masters hold the bucket as it stands on its block, so only a copy may change.
        Bucket changed = home.changedCopy(home.local);
        live.enter(changed, mixed);
        return changed;
    }

    private void mergeWhileEmpty(int mixed) {
        for (int local = live.bucketOf(mixed).local; local > 0; local--) {
            Bucket home = live.bucketOf(mixed);
            Bucket buddy = live.bucketOf(mixed ^ (1 << (local - 1)));
            if (home.count > 0 || buddy.local != local) {
                return;
            }
            live.enter(buddy.changedCopy(local - 1), mixed);
            live.buckets--;
        }
    }

    private int writeChanges() {
        int changed = live.changedBuckets();
        if (changed == 0) {
            return 0;
        }
        if (changed + blocksOfDirectory(live.depth) > freeBlocks()) {
            return NO_ROOM;
        }
        takeSynced();
        writeBuckets();
        writeDirectory();
        if (!writeBlock()) {
            return DOWN;
        }
        lastMaster = MASTERS - 1 - lastMaster;
        masters[lastMaster].copyFrom(live);
        return 0;
    }

    private void takeSynced() {
        for (int i = 0; i < blocks; i++) {
            taken[i] = i < MASTERS;
        }
        State synced = masters[lastMaster];
        for (int entry = 0; entry < synced.entries(); entry++) {
            taken[synced.directory[entry].block] = true;
        }
        for (int i = 0; i < blocksOfDirectory(synced.depth); i++) {
            taken[synced.directoryBlocks[i]] = true;
        }
    }

    private void writeBuckets() {
        for (int entry = 0; entry < live.entries(); entry++) {
            Bucket bucket = live.directory[entry];
            if (bucket.block == 0) {
                bucket.block = takeLeastFree();
                writeBlock();
            }
        }
    }

    private void writeDirectory() {
        for (int i = 0; i < blocksOfDirectory(live.depth); i++) {
            live.directoryBlocks[i] = takeLeastFree();
            writeBlock();
        }
    }

    // That there are free blocks enough is looked at before, so the loop always comes upon one.
    private int takeLeastFree() {
        int block = MASTERS;
        while (block < blocks - 1 && taken[block]) {
            block++;
        }
        taken[block] = true;
        return block;
    }

    // Whether it was written; a lost write takes the store down, and every later one is lost with it.
    private boolean writeBlock() {
        if (writesToCrash == 1) {
            down = true;
        }
        writesToCrash = Math.max(0, writesToCrash - 1);
        if (down) {
            return false;
        }
        written++;
        return true;
    }

    /** What a master tells, and likewise what holds at present: the directory and the buckets behind it. */
    private static final class State {
        final Bucket[] directory;
        final int[] directoryBlocks;
        int depth;
        int buckets;
        int keys;

        State(int mostDepth, Bucket first) {
            directory = new Bucket[1 << mostDepth];
            for (int i = 0; i < directory.length; i++) {
                directory[i] = first;
            }
            directoryBlocks = new int[blocksOfDirectory(mostDepth)];
            directoryBlocks[0] = FIRST_DIRECTORY_BLOCK;
            buckets = 1;
        }

        int entries() {
            return 1 << depth;
        }

        Bucket bucketOf(int mixed) {
            return directory[mixed & (entries() - 1)];
        }

        void makeEmpty(Bucket only) {
            depth = 0;
            buckets = 1;
            keys = 0;
            directory[0] = only;
        }

        void copyFrom(State other) {
            depth = other.depth;
            buckets = other.buckets;
            keys = other.keys;
            for (int i = 0; i < entries(); i++) {
                directory[i] = other.directory[i];
            }
            for (int i = 0; i < directoryBlocks.length; i++) {
                directoryBlocks[i] = other.directoryBlocks[i];
            }
        }

        // The bucket's entries are all that agree with the mixing in its local bits.
        void enter(Bucket bucket, int mixed) {
            int step = 1 << bucket.local;
            for (int i = mixed & (step - 1); i < entries(); i += step) {
                directory[i] = bucket;
            }
        }

        void doubleDirectory() {
            int half = entries();
            for (int i = 0; i < half; i++) {
                directory[half + i] = directory[i];
            }
            depth++;
        }

        void halveWhilePossible() {
            for (int i = depth; i > 0 && !hasBucketOfFullDepth(); i--) {
                depth--;
            }
        }

        boolean hasBucketOfFullDepth() {
            for (int i = 0; i < entries(); i++) {
                if (directory[i].local == depth) {
                    return true;
                }
            }
            return false;
        }

        int changedBuckets() {
            int changed = 0;
            for (int i = 0; i < entries(); i++) {
                boolean firstEntry = i < 1 << directory[i].local;
                if (firstEntry && directory[i].block == 0) {
                    changed++;
                }
            }
            return changed;
        }
    }

    /** Up to fifteen keys with their values; its block is 0 from a change until the next sync. */
    private static final class Bucket {
        final int local;
        final int[] keys = new int[KEYS_A_BUCKET];
        final int[] values = new int[KEYS_A_BUCKET];
        int count;
        int block;

        Bucket(int local) {
            this.local = local;
        }

        int placeOf(int k) {
            for (int i = 0; i < count; i++) {
                if (keys[i] == k) {
                    return i;
                }
            }
            return -1;
        }

        // Whether the key is a new one.
        boolean store(int k, int v) {
            int place = placeOf(k);
            if (place >= 0) {
                values[place] = v;
                return false;
            }
            keys[count] = k;
            values[count] = v;
            count++;
            return true;
        }

        void drop(int place) {
            count--;
            keys[place] = keys[count];
            values[place] = values[count];
        }

        Bucket changedCopy(int newLocal) {
            Bucket copy = new Bucket(newLocal);
            for (int i = 0; i < count; i++) {
                copy.keys[i] = keys[i];
                copy.values[i] = values[i];
            }
            copy.count = count;
            return copy;
        }
    }
}
